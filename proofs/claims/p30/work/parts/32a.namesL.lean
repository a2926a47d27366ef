set_option maxRecDepth 20000 in
theorem ggL_tryRun_X5_run : GoodIn wsL_tryRun wsX5_run := goodIn_ca (goodIn_ca (goodIn_r _ [9, 10, 11, 12, 13, 14, 15, 16, 17, 18, 19, 20, 21, 22, 23, 24, 25, 26, 8, 27, 28, 29, 30, 31, 32, 33, 34, 35, 36, 37, 38, 39, 40, 41, 42, 43, 44, 45, 46, 47, 48, 49, 50, 51, 52, 53, 54, 55, 56, 57, 58, 59, 60, 61, 62, 63, 64, 65, 66, 67, 68, 69, 70, 71, 72, 73, 74, 75, 76, 77, 78, 79, 80, 81, 82, 83, 84, 85, 86, 87, 88, 89, 90, 91, 92, 93, 94, 95, 96, 97, 98, 99, 100, 101, 102, 103, 104, 105, 106, 107, 108, 109, 110, 111, 112, 113, 114, 115, 116, 117, 118, 119, 120, 121, 122, 123, 124, 125, 126, 127, 128, 129, 130, 131, 132, 133, 134, 135, 136, 137, 138, 139, 140, 141, 142, 143, 144, 145, 146, 147, 148, 149] (by decide +kernel) (by decide +kernel)) (goodIn_sub (fun _ h => List.mem_cons_of_mem _ (List.mem_append_left _ (List.mem_append_right _ h))) (by decide +kernel))) (goodIn_sub (fun _ h => List.mem_cons_of_mem _ (List.mem_append_right _ h)) (by decide +kernel))
set_option maxRecDepth 20000 in
theorem gL_tryRun_X5_run : GoodIn wsL_tryRun (wsV RL 7 RX5 yX5_run wsX5_run) := goodIn_app (goodIn_of _ (by decide +kernel)) ggL_tryRun_X5_run
theorem dL_tryRun_0 : decode cL_tryRun 0 = .ok (.aload_n 0, 1) := by decide +kernel
theorem dL_tryRun_1 : decode cL_tryRun 1 = .ok (.lload_n 1, 1) := by decide +kernel
theorem dL_tryRun_2 : decode cL_tryRun 2 = .ok (.iload_n 3, 1) := by decide +kernel
theorem dL_tryRun_3 : decode cL_tryRun 3 = .ok (.invokevirtual 7, 3) := by decide +kernel
theorem dL_tryRun_6 : decode cL_tryRun 6 = .ok (.ireturn, 1) := by decide +kernel
theorem dL_tryRun_7 : decode cL_tryRun 7 = .ok (.astore 4, 2) := by decide +kernel
theorem dL_tryRun_9 : decode cL_tryRun 9 = .ok (.ldc 15, 2) := by decide +kernel
theorem dL_tryRun_11 : decode cL_tryRun 11 = .ok (.ireturn, 1) := by decide +kernel
theorem dL_tryRun_12 : decode cL_tryRun 12 = .ok (.astore 4, 2) := by decide +kernel
theorem dL_tryRun_14 : decode cL_tryRun 14 = .ok (.ldc 18, 2) := by decide +kernel
theorem dL_tryRun_16 : decode cL_tryRun 16 = .ok (.ireturn, 1) := by decide +kernel
set_option maxRecDepth 20000 in
theorem ggL_tryScript_X5_runScript : GoodIn wsL_tryScript wsX5_runScript := goodIn_ca (goodIn_r _ [7, 8, 9, 10, 11, 12, 13, 14, 15, 16, 17, 18, 19, 20, 21, 22, 23, 24, 25, 26, 27, 28, 29, 30, 31, 32, 33, 34, 35, 36, 37, 38, 39, 40, 41, 42, 43, 44, 45, 46, 47, 48, 49, 50, 51, 52, 53, 54, 55, 56, 57, 58, 59, 60, 61, 62, 63, 64, 65, 66, 67, 68, 69, 70, 71, 72, 73, 74, 75, 76, 77, 78, 79, 80, 81, 82, 6, 83, 84, 85, 86, 87, 88, 89, 90, 91, 92, 93, 94, 95, 96, 97, 98, 99, 100, 101, 102, 103, 104, 105, 106, 107, 108, 109, 110, 111, 112, 113, 114, 115, 116, 117, 118, 119, 120, 121, 122, 123, 124, 125, 126, 127, 128, 129, 130, 131, 132, 133, 134, 135, 136, 137, 138, 139, 140, 141, 142, 143, 144, 145, 146, 147, 148, 149, 150, 151, 152, 153, 154, 155, 156, 157, 158, 159, 160, 161, 162, 163, 164, 165, 166, 167, 168, 169, 170, 171, 172, 173, 174, 175, 176, 177, 178, 179, 180, 181, 182, 183, 184, 185, 186, 187, 188, 189, 190, 191, 192, 193, 194, 195, 196, 197, 198, 199, 200, 201] (by decide +kernel) (by decide +kernel)) (goodIn_sub (fun _ h => List.mem_cons_of_mem _ (List.mem_append_right _ h)) (by decide +kernel))
set_option maxRecDepth 20000 in
theorem gL_tryScript_X5_runScript : GoodIn wsL_tryScript (wsV RL 19 RX5 yX5_runScript wsX5_runScript) := goodIn_app (goodIn_of _ (by decide +kernel)) ggL_tryScript_X5_runScript
theorem dL_tryScript_0 : decode cL_tryScript 0 = .ok (.aload_n 0, 1) := by decide +kernel
theorem dL_tryScript_1 : decode cL_tryScript 1 = .ok (.iload_n 1, 1) := by decide +kernel
theorem dL_tryScript_2 : decode cL_tryScript 2 = .ok (.lload_n 2, 1) := by decide +kernel
theorem dL_tryScript_3 : decode cL_tryScript 3 = .ok (.invokevirtual 19, 3) := by decide +kernel
theorem dL_tryScript_6 : decode cL_tryScript 6 = .ok (.ireturn, 1) := by decide +kernel
theorem dL_tryScript_7 : decode cL_tryScript 7 = .ok (.astore 4, 2) := by decide +kernel
theorem dL_tryScript_9 : decode cL_tryScript 9 = .ok (.ldc 15, 2) := by decide +kernel
theorem dL_tryScript_11 : decode cL_tryScript 11 = .ok (.ireturn, 1) := by decide +kernel
set_option maxRecDepth 20000 in
theorem ggL_trySimulate_X5_simulate : GoodIn wsL_trySimulate wsX5_simulate := goodIn_ca (goodIn_r _ [7, 8, 9, 10, 11, 12, 13, 14, 15, 16, 17, 18, 19, 20, 21, 22, 23, 24, 25, 26, 27, 28, 29, 30, 31, 32, 33, 34, 35, 36, 37, 38, 39, 40, 41, 42, 43, 44, 45, 46, 47, 48, 49, 50, 51, 52, 53, 54, 55, 56, 57, 58, 59, 60, 61, 62, 63, 64, 65, 66, 67, 68, 69, 70, 71, 72, 73, 74, 75, 76, 77, 78, 79, 80, 81, 82, 83, 84, 85, 86, 87, 88, 89, 90, 91, 92, 93, 94, 95, 96, 97, 98, 99, 100, 101, 102, 103, 104, 105, 106, 107, 108, 109, 110, 111, 112, 113, 114, 115, 116, 117, 118, 119, 120, 121, 122, 123, 6, 124, 125, 126, 127, 128, 129, 130, 131, 132, 133, 134, 135, 136, 137, 138, 139, 140, 141, 142, 143, 144, 145, 146, 147, 148, 149, 150, 151, 152, 153, 154, 155, 156, 157, 158, 159, 160, 161, 162, 163, 164, 165, 166, 167, 168, 169, 170] (by decide +kernel) (by decide +kernel)) (goodIn_sub (fun _ h => List.mem_cons_of_mem _ (List.mem_append_right _ h)) (by decide +kernel))
set_option maxRecDepth 20000 in
theorem gL_trySimulate_X5_simulate : GoodIn wsL_trySimulate (wsV RL 23 RX5 yX5_simulate wsX5_simulate) := goodIn_app (goodIn_of _ (by decide +kernel)) ggL_trySimulate_X5_simulate
theorem dL_trySimulate_0 : decode cL_trySimulate 0 = .ok (.aload_n 0, 1) := by decide +kernel
theorem dL_trySimulate_1 : decode cL_trySimulate 1 = .ok (.lload_n 1, 1) := by decide +kernel
theorem dL_trySimulate_2 : decode cL_trySimulate 2 = .ok (.iload_n 3, 1) := by decide +kernel
theorem dL_trySimulate_3 : decode cL_trySimulate 3 = .ok (.invokevirtual 23, 3) := by decide +kernel
theorem dL_trySimulate_6 : decode cL_trySimulate 6 = .ok (.ireturn, 1) := by decide +kernel
theorem dL_trySimulate_7 : decode cL_trySimulate 7 = .ok (.astore 4, 2) := by decide +kernel
theorem dL_trySimulate_9 : decode cL_trySimulate 9 = .ok (.ldc 15, 2) := by decide +kernel
theorem dL_trySimulate_11 : decode cL_trySimulate 11 = .ok (.ireturn, 1) := by decide +kernel
set_option maxRecDepth 20000 in
theorem ggL_tryAppend_X5_append : GoodIn wsL_tryAppend wsX5_append := goodIn_ca (goodIn_ca (goodIn_r _ [9, 10, 11, 12, 13, 14, 15, 16, 17, 18, 19, 20, 21, 22, 23, 24, 25, 26, 27, 28, 29, 30, 31, 32, 33, 34, 35, 36] (by decide +kernel) (by decide +kernel)) (goodIn_sub (fun _ h => List.mem_cons_of_mem _ (List.mem_append_left _ (List.mem_append_right _ h))) (by decide +kernel))) (goodIn_sub (fun _ h => List.mem_cons_of_mem _ (List.mem_append_right _ h)) (by decide +kernel))
set_option maxRecDepth 20000 in
theorem gL_tryAppend_X5_append : GoodIn wsL_tryAppend (wsV RL 26 RX5 yX5_append wsX5_append) := goodIn_app (goodIn_of _ (by decide +kernel)) ggL_tryAppend_X5_append
theorem dL_tryAppend_0 : decode cL_tryAppend 0 = .ok (.aload_n 0, 1) := by decide +kernel
theorem dL_tryAppend_1 : decode cL_tryAppend 1 = .ok (.iload_n 1, 1) := by decide +kernel
theorem dL_tryAppend_2 : decode cL_tryAppend 2 = .ok (.invokevirtual 26, 3) := by decide +kernel
theorem dL_tryAppend_5 : decode cL_tryAppend 5 = .ok (.ireturn, 1) := by decide +kernel
theorem dL_tryAppend_6 : decode cL_tryAppend 6 = .ok (.astore_n 2, 1) := by decide +kernel
theorem dL_tryAppend_7 : decode cL_tryAppend 7 = .ok (.ldc 15, 2) := by decide +kernel
theorem dL_tryAppend_9 : decode cL_tryAppend 9 = .ok (.ireturn, 1) := by decide +kernel
theorem dL_tryAppend_10 : decode cL_tryAppend 10 = .ok (.astore_n 2, 1) := by decide +kernel
theorem dL_tryAppend_11 : decode cL_tryAppend 11 = .ok (.ldc 18, 2) := by decide +kernel
theorem dL_tryAppend_13 : decode cL_tryAppend 13 = .ok (.ireturn, 1) := by decide +kernel
set_option maxRecDepth 20000 in
theorem ggL_tryLoad_X5_load : GoodIn wsL_tryLoad wsX5_load := goodIn_ca (goodIn_r _ [7, 8, 9, 10, 11, 12, 13, 14, 15, 16, 17, 18, 19, 20, 21, 22, 23, 24, 25, 26, 27, 28, 29, 30, 31, 32, 33, 34, 35, 36, 37, 38, 39, 40, 41, 42, 43, 44, 45, 46, 47, 48, 49, 50, 51, 52, 53, 54, 55, 56, 57, 58, 59, 60, 61, 62, 6, 63, 64, 65, 66, 67, 68, 69, 70, 71, 72, 73, 74, 75, 76, 77, 78, 79, 80, 81, 82, 83, 84, 85, 86, 87, 88, 89, 90, 91, 92, 93, 94, 95, 96, 97, 98, 99, 100, 101, 102, 103, 104, 105, 106, 107, 108, 109, 110, 111, 112, 113, 114, 115, 116, 117, 118, 119, 120, 121, 122, 123, 124, 125, 126, 127, 128, 129, 130, 131, 132, 133, 134, 135] (by decide +kernel) (by decide +kernel)) (goodIn_sub (fun _ h => List.mem_cons_of_mem _ (List.mem_append_right _ h)) (by decide +kernel))
set_option maxRecDepth 20000 in
theorem gL_tryLoad_X5_load : GoodIn wsL_tryLoad (wsV RL 30 RX5 yX5_load wsX5_load) := goodIn_app (goodIn_of _ (by decide +kernel)) ggL_tryLoad_X5_load
theorem dL_tryLoad_0 : decode cL_tryLoad 0 = .ok (.aload_n 0, 1) := by decide +kernel
theorem dL_tryLoad_1 : decode cL_tryLoad 1 = .ok (.invokevirtual 30, 3) := by decide +kernel
theorem dL_tryLoad_4 : decode cL_tryLoad 4 = .ok (.ireturn, 1) := by decide +kernel
theorem dL_tryLoad_5 : decode cL_tryLoad 5 = .ok (.astore_n 1, 1) := by decide +kernel
theorem dL_tryLoad_6 : decode cL_tryLoad 6 = .ok (.ldc 18, 2) := by decide +kernel
theorem dL_tryLoad_8 : decode cL_tryLoad 8 = .ok (.ireturn, 1) := by decide +kernel
set_option maxRecDepth 20000 in
theorem ggL_tryAbout_X5_about : GoodIn wsL_tryAbout wsX5_about := goodIn_ca (goodIn_r _ [7, 8, 9, 10, 11, 12, 13, 14, 15, 16, 17, 18, 19, 20, 21, 22, 23, 24, 25, 26, 27, 28, 29, 30, 31, 32, 33, 34, 35, 36, 37, 38, 39, 40, 41, 42, 43, 44, 45, 46, 47, 48, 49, 50, 51, 52, 53, 54, 55, 56, 57, 58, 59, 60, 61, 62] (by decide +kernel) (by decide +kernel)) (goodIn_sub (fun _ h => List.mem_cons_of_mem _ (List.mem_append_right _ h)) (by decide +kernel))
set_option maxRecDepth 20000 in
theorem gL_tryAbout_X5_about : GoodIn wsL_tryAbout (wsV RL 34 RX5 yX5_about wsX5_about) := goodIn_app (goodIn_of _ (by decide +kernel)) ggL_tryAbout_X5_about
theorem dL_tryAbout_0 : decode cL_tryAbout 0 = .ok (.aload_n 0, 1) := by decide +kernel
theorem dL_tryAbout_1 : decode cL_tryAbout 1 = .ok (.iload_n 1, 1) := by decide +kernel
theorem dL_tryAbout_2 : decode cL_tryAbout 2 = .ok (.invokevirtual 34, 3) := by decide +kernel
theorem dL_tryAbout_5 : decode cL_tryAbout 5 = .ok (.ireturn, 1) := by decide +kernel
theorem dL_tryAbout_6 : decode cL_tryAbout 6 = .ok (.astore_n 2, 1) := by decide +kernel
theorem dL_tryAbout_7 : decode cL_tryAbout 7 = .ok (.ldc 15, 2) := by decide +kernel
theorem dL_tryAbout_9 : decode cL_tryAbout 9 = .ok (.ireturn, 1) := by decide +kernel
set_option maxRecDepth 20000 in
theorem ggL_tryDog_X5_dog : GoodIn wsL_tryDog wsX5_dog := goodIn_ca (goodIn_ca (goodIn_r _ [9, 10, 11, 12, 13, 14, 15, 16, 17, 18, 19, 20, 21, 22, 23, 24, 25, 26, 27, 28, 29, 30, 31, 32, 33, 34, 35, 36, 37, 38, 39, 40, 41, 42, 43, 44, 45, 46, 47, 48, 49, 50, 51, 52, 53, 54, 55, 56, 57, 58, 59, 60, 61, 62, 63, 64, 65, 66, 67, 68, 69, 70, 71, 72, 73, 74, 75, 76, 77, 78, 79, 80, 81, 82, 83, 84, 85, 86, 87, 88, 89, 90, 91, 92, 93, 94, 95, 96, 97, 98, 99, 100] (by decide +kernel) (by decide +kernel)) (goodIn_sub (fun _ h => List.mem_cons_of_mem _ (List.mem_append_left _ (List.mem_append_right _ h))) (by decide +kernel))) (goodIn_sub (fun _ h => List.mem_cons_of_mem _ (List.mem_append_right _ h)) (by decide +kernel))
set_option maxRecDepth 20000 in
theorem gL_tryDog_X5_dog : GoodIn wsL_tryDog (wsV RL 37 RX5 yX5_dog wsX5_dog) := goodIn_app (goodIn_of _ (by decide +kernel)) ggL_tryDog_X5_dog
theorem dL_tryDog_0 : decode cL_tryDog 0 = .ok (.aload_n 0, 1) := by decide +kernel
theorem dL_tryDog_1 : decode cL_tryDog 1 = .ok (.iload_n 1, 1) := by decide +kernel
theorem dL_tryDog_2 : decode cL_tryDog 2 = .ok (.iload_n 2, 1) := by decide +kernel
theorem dL_tryDog_3 : decode cL_tryDog 3 = .ok (.invokevirtual 37, 3) := by decide +kernel
theorem dL_tryDog_6 : decode cL_tryDog 6 = .ok (.ireturn, 1) := by decide +kernel
theorem dL_tryDog_7 : decode cL_tryDog 7 = .ok (.astore_n 3, 1) := by decide +kernel
theorem dL_tryDog_8 : decode cL_tryDog 8 = .ok (.ldc 43, 2) := by decide +kernel
theorem dL_tryDog_10 : decode cL_tryDog 10 = .ok (.ireturn, 1) := by decide +kernel
theorem dL_tryDog_11 : decode cL_tryDog 11 = .ok (.astore_n 3, 1) := by decide +kernel
theorem dL_tryDog_12 : decode cL_tryDog 12 = .ok (.ldc 15, 2) := by decide +kernel
theorem dL_tryDog_14 : decode cL_tryDog 14 = .ok (.ireturn, 1) := by decide +kernel
set_option maxRecDepth 20000 in
theorem ggL_tryLost_X5_lost : GoodIn wsL_tryLost wsX5_lost := goodIn_ca (goodIn_r _ [7, 8, 9, 10, 11, 12, 13, 14, 15, 16, 17, 18, 19, 6, 20, 21, 22, 23, 24, 25, 26, 27, 28, 29, 30, 31, 32, 33, 34, 35, 36, 37, 38, 39, 40, 41, 42, 43, 44, 45, 46, 47, 48, 49] (by decide +kernel) (by decide +kernel)) (goodIn_sub (fun _ h => List.mem_cons_of_mem _ (List.mem_append_right _ h)) (by decide +kernel))
set_option maxRecDepth 20000 in
theorem gL_tryLost_X5_lost : GoodIn wsL_tryLost (wsV RL 44 RX5 yX5_lost wsX5_lost) := goodIn_app (goodIn_of _ (by decide +kernel)) ggL_tryLost_X5_lost
theorem dL_tryLost_0 : decode cL_tryLost 0 = .ok (.aload_n 0, 1) := by decide +kernel
theorem dL_tryLost_1 : decode cL_tryLost 1 = .ok (.iload_n 1, 1) := by decide +kernel
theorem dL_tryLost_2 : decode cL_tryLost 2 = .ok (.iload_n 2, 1) := by decide +kernel
theorem dL_tryLost_3 : decode cL_tryLost 3 = .ok (.invokevirtual 44, 3) := by decide +kernel
theorem dL_tryLost_6 : decode cL_tryLost 6 = .ok (.ireturn, 1) := by decide +kernel
theorem dL_tryLost_7 : decode cL_tryLost 7 = .ok (.astore_n 3, 1) := by decide +kernel
theorem dL_tryLost_8 : decode cL_tryLost 8 = .ok (.ldc 43, 2) := by decide +kernel
theorem dL_tryLost_10 : decode cL_tryLost 10 = .ok (.ireturn, 1) := by decide +kernel
set_option maxRecDepth 20000 in
theorem ggL_tryOrder_X5_order : GoodIn wsL_tryOrder wsX5_order := goodIn_ca (goodIn_r _ [7, 8, 9, 10, 11, 12, 13, 14, 15, 16, 17, 18, 19, 20, 21, 22, 23, 24, 25, 26, 27, 28, 29, 30, 31, 32, 33, 34, 35, 36, 37, 38, 39, 40, 41, 42, 43, 44, 45, 46, 47, 48, 49, 50, 51, 52, 53, 54, 55, 56, 57, 58, 59, 60, 61, 62, 63, 64, 65, 66] (by decide +kernel) (by decide +kernel)) (goodIn_sub (fun _ h => List.mem_cons_of_mem _ (List.mem_append_right _ h)) (by decide +kernel))
set_option maxRecDepth 20000 in
theorem gL_tryOrder_X5_order : GoodIn wsL_tryOrder (wsV RL 47 RX5 yX5_order wsX5_order) := goodIn_app (goodIn_of _ (by decide +kernel)) ggL_tryOrder_X5_order
theorem dL_tryOrder_0 : decode cL_tryOrder 0 = .ok (.aload_n 0, 1) := by decide +kernel
theorem dL_tryOrder_1 : decode cL_tryOrder 1 = .ok (.iload_n 1, 1) := by decide +kernel
theorem dL_tryOrder_2 : decode cL_tryOrder 2 = .ok (.invokevirtual 47, 3) := by decide +kernel
theorem dL_tryOrder_5 : decode cL_tryOrder 5 = .ok (.ireturn, 1) := by decide +kernel
theorem dL_tryOrder_6 : decode cL_tryOrder 6 = .ok (.astore_n 2, 1) := by decide +kernel
theorem dL_tryOrder_7 : decode cL_tryOrder 7 = .ok (.ldc 15, 2) := by decide +kernel
theorem dL_tryOrder_9 : decode cL_tryOrder 9 = .ok (.ireturn, 1) := by decide +kernel
set_option maxRecDepth 20000 in
theorem ggL_tryOwner_X5_owner : GoodIn wsL_tryOwner wsX5_owner := goodIn_ca (goodIn_r _ [7, 8, 9, 10, 11, 12, 6, 13, 14, 15, 16, 17, 18, 19, 20, 21, 22, 23, 24, 25, 26, 27, 28, 29, 30, 31, 32, 33, 34, 35, 36, 37, 38, 39, 40, 41, 42, 43, 44, 45, 46, 47, 48, 49, 50, 51, 52, 53, 54, 55, 56, 57, 58, 59, 60, 61] (by decide +kernel) (by decide +kernel)) (goodIn_sub (fun _ h => List.mem_cons_of_mem _ (List.mem_append_right _ h)) (by decide +kernel))
set_option maxRecDepth 20000 in
theorem gL_tryOwner_X5_owner : GoodIn wsL_tryOwner (wsV RL 50 RX5 yX5_owner wsX5_owner) := goodIn_app (goodIn_of _ (by decide +kernel)) ggL_tryOwner_X5_owner
theorem dL_tryOwner_0 : decode cL_tryOwner 0 = .ok (.aload_n 0, 1) := by decide +kernel
theorem dL_tryOwner_1 : decode cL_tryOwner 1 = .ok (.iload_n 1, 1) := by decide +kernel
theorem dL_tryOwner_2 : decode cL_tryOwner 2 = .ok (.invokevirtual 50, 3) := by decide +kernel
theorem dL_tryOwner_5 : decode cL_tryOwner 5 = .ok (.ireturn, 1) := by decide +kernel
theorem dL_tryOwner_6 : decode cL_tryOwner 6 = .ok (.astore_n 2, 1) := by decide +kernel
theorem dL_tryOwner_7 : decode cL_tryOwner 7 = .ok (.ldc 15, 2) := by decide +kernel
theorem dL_tryOwner_9 : decode cL_tryOwner 9 = .ok (.ireturn, 1) := by decide +kernel
set_option maxRecDepth 20000 in
theorem ggL_tryEnter_X5_enter : GoodIn wsL_tryEnter wsX5_enter := goodIn_ca (goodIn_ca (goodIn_r _ [9, 10, 11, 12, 13, 14, 15, 16, 17, 18, 8, 19, 20, 21, 22, 23, 24, 25, 26, 27, 28, 29, 30, 31, 32, 33, 34, 35, 36, 37, 38, 39, 40, 41, 42, 43, 44, 45, 46, 47, 48, 49, 50, 51, 52, 53, 54, 55, 56, 57, 58, 59, 60, 61, 62, 63, 64, 65, 66, 67, 68, 69, 70, 71, 72, 73, 74, 75, 76, 77, 78, 79, 80, 81, 82, 83, 84, 85, 86, 87, 88] (by decide +kernel) (by decide +kernel)) (goodIn_sub (fun _ h => List.mem_cons_of_mem _ (List.mem_append_left _ (List.mem_append_right _ h))) (by decide +kernel))) (goodIn_sub (fun _ h => List.mem_cons_of_mem _ (List.mem_append_right _ h)) (by decide +kernel))
set_option maxRecDepth 20000 in
theorem gL_tryEnter_X5_enter : GoodIn wsL_tryEnter (wsV RL 53 RX5 yX5_enter wsX5_enter) := goodIn_app (goodIn_of _ (by decide +kernel)) ggL_tryEnter_X5_enter
theorem dL_tryEnter_0 : decode cL_tryEnter 0 = .ok (.aload_n 0, 1) := by decide +kernel
theorem dL_tryEnter_1 : decode cL_tryEnter 1 = .ok (.iload_n 1, 1) := by decide +kernel
theorem dL_tryEnter_2 : decode cL_tryEnter 2 = .ok (.iload_n 2, 1) := by decide +kernel
theorem dL_tryEnter_3 : decode cL_tryEnter 3 = .ok (.invokevirtual 53, 3) := by decide +kernel
theorem dL_tryEnter_6 : decode cL_tryEnter 6 = .ok (.ireturn, 1) := by decide +kernel
theorem dL_tryEnter_7 : decode cL_tryEnter 7 = .ok (.astore_n 3, 1) := by decide +kernel
theorem dL_tryEnter_8 : decode cL_tryEnter 8 = .ok (.ldc 15, 2) := by decide +kernel
theorem dL_tryEnter_10 : decode cL_tryEnter 10 = .ok (.ireturn, 1) := by decide +kernel
theorem dL_tryEnter_11 : decode cL_tryEnter 11 = .ok (.astore_n 3, 1) := by decide +kernel
theorem dL_tryEnter_12 : decode cL_tryEnter 12 = .ok (.ldc 18, 2) := by decide +kernel
theorem dL_tryEnter_14 : decode cL_tryEnter 14 = .ok (.ireturn, 1) := by decide +kernel
set_option maxRecDepth 20000 in
theorem ggL_tryWithdraw_X5_withdraw : GoodIn wsL_tryWithdraw wsX5_withdraw := goodIn_ca (goodIn_ca (goodIn_r _ [9, 10, 11, 12, 13, 14, 15, 16, 17, 18, 19, 20, 21, 22, 23, 24, 25, 26, 27, 28, 29, 30, 31, 32, 33, 34, 35, 36, 37, 38, 39, 40, 41, 42, 43, 44, 45, 46, 47, 48, 49, 50, 51, 52, 53, 54, 55, 56, 57, 58, 59, 60, 61, 62, 63, 64, 65, 66, 67, 68, 69, 70, 71, 72, 73, 74, 75, 76, 77, 78] (by decide +kernel) (by decide +kernel)) (goodIn_sub (fun _ h => List.mem_cons_of_mem _ (List.mem_append_left _ (List.mem_append_right _ h))) (by decide +kernel))) (goodIn_sub (fun _ h => List.mem_cons_of_mem _ (List.mem_append_right _ h)) (by decide +kernel))
set_option maxRecDepth 20000 in
theorem gL_tryWithdraw_X5_withdraw : GoodIn wsL_tryWithdraw (wsV RL 56 RX5 yX5_withdraw wsX5_withdraw) := goodIn_app (goodIn_of _ (by decide +kernel)) ggL_tryWithdraw_X5_withdraw
theorem dL_tryWithdraw_0 : decode cL_tryWithdraw 0 = .ok (.aload_n 0, 1) := by decide +kernel
theorem dL_tryWithdraw_1 : decode cL_tryWithdraw 1 = .ok (.iload_n 1, 1) := by decide +kernel
theorem dL_tryWithdraw_2 : decode cL_tryWithdraw 2 = .ok (.invokevirtual 56, 3) := by decide +kernel
theorem dL_tryWithdraw_5 : decode cL_tryWithdraw 5 = .ok (.ireturn, 1) := by decide +kernel
theorem dL_tryWithdraw_6 : decode cL_tryWithdraw 6 = .ok (.astore_n 2, 1) := by decide +kernel
theorem dL_tryWithdraw_7 : decode cL_tryWithdraw 7 = .ok (.ldc 43, 2) := by decide +kernel
theorem dL_tryWithdraw_9 : decode cL_tryWithdraw 9 = .ok (.ireturn, 1) := by decide +kernel
theorem dL_tryWithdraw_10 : decode cL_tryWithdraw 10 = .ok (.astore_n 2, 1) := by decide +kernel
theorem dL_tryWithdraw_11 : decode cL_tryWithdraw 11 = .ok (.ldc 18, 2) := by decide +kernel
theorem dL_tryWithdraw_13 : decode cL_tryWithdraw 13 = .ok (.ireturn, 1) := by decide +kernel
set_option maxRecDepth 20000 in
theorem ggL_tryInterfere_X5_interfere : GoodIn wsL_tryInterfere wsX5_interfere := goodIn_ca (goodIn_ca (goodIn_r _ [9, 10, 11, 12, 13, 14, 15, 16, 17, 18, 19, 20, 21, 22, 23, 24, 8, 25, 26, 27, 28, 29, 30, 31, 32, 33, 34, 35, 36, 37, 38, 39, 40, 41, 42, 43, 44, 45, 46, 47, 48, 49, 50, 51, 52, 53, 54, 55, 56, 57, 58, 59, 60, 61, 62, 63, 64, 65, 66, 67, 68, 69, 70, 71, 72, 73, 74, 75, 76, 77, 78, 79, 80, 81, 82, 83, 84, 85, 86, 87, 88, 89, 90, 91, 92, 93] (by decide +kernel) (by decide +kernel)) (goodIn_sub (fun _ h => List.mem_cons_of_mem _ (List.mem_append_left _ (List.mem_append_right _ h))) (by decide +kernel))) (goodIn_sub (fun _ h => List.mem_cons_of_mem _ (List.mem_append_right _ h)) (by decide +kernel))
set_option maxRecDepth 20000 in
theorem gL_tryInterfere_X5_interfere : GoodIn wsL_tryInterfere (wsV RL 59 RX5 yX5_interfere wsX5_interfere) := goodIn_app (goodIn_of _ (by decide +kernel)) ggL_tryInterfere_X5_interfere
theorem dL_tryInterfere_0 : decode cL_tryInterfere 0 = .ok (.aload_n 0, 1) := by decide +kernel
theorem dL_tryInterfere_1 : decode cL_tryInterfere 1 = .ok (.iload_n 1, 1) := by decide +kernel
theorem dL_tryInterfere_2 : decode cL_tryInterfere 2 = .ok (.iload_n 2, 1) := by decide +kernel
theorem dL_tryInterfere_3 : decode cL_tryInterfere 3 = .ok (.invokevirtual 59, 3) := by decide +kernel
theorem dL_tryInterfere_6 : decode cL_tryInterfere 6 = .ok (.ireturn, 1) := by decide +kernel
theorem dL_tryInterfere_7 : decode cL_tryInterfere 7 = .ok (.astore_n 3, 1) := by decide +kernel
theorem dL_tryInterfere_8 : decode cL_tryInterfere 8 = .ok (.ldc 43, 2) := by decide +kernel
theorem dL_tryInterfere_10 : decode cL_tryInterfere 10 = .ok (.ireturn, 1) := by decide +kernel
theorem dL_tryInterfere_11 : decode cL_tryInterfere 11 = .ok (.astore_n 3, 1) := by decide +kernel
theorem dL_tryInterfere_12 : decode cL_tryInterfere 12 = .ok (.ldc 18, 2) := by decide +kernel
theorem dL_tryInterfere_14 : decode cL_tryInterfere 14 = .ok (.ireturn, 1) := by decide +kernel
set_option maxRecDepth 20000 in
theorem ggL_tryNext_X5_nextDay : GoodIn wsL_tryNext wsX5_nextDay := goodIn_ca (goodIn_r _ [7, 8, 9, 10, 11, 12, 13, 14, 6, 15, 16, 17, 18, 19, 20, 21, 22, 23, 24, 25, 26, 27, 28, 29, 30, 31, 32, 33, 34, 35, 36, 37, 38, 39, 40, 41, 42, 43, 44, 45, 46, 47, 48, 49, 50, 51, 52, 53, 54, 55, 56, 57, 58, 59, 60, 61, 62, 63, 64, 65, 66, 67, 68, 69, 70, 71, 72, 73, 74, 75, 76, 77] (by decide +kernel) (by decide +kernel)) (goodIn_sub (fun _ h => List.mem_cons_of_mem _ (List.mem_append_right _ h)) (by decide +kernel))
set_option maxRecDepth 20000 in
theorem gL_tryNext_X5_nextDay : GoodIn wsL_tryNext (wsV RL 62 RX5 yX5_nextDay wsX5_nextDay) := goodIn_app (goodIn_of _ (by decide +kernel)) ggL_tryNext_X5_nextDay
theorem dL_tryNext_0 : decode cL_tryNext 0 = .ok (.aload_n 0, 1) := by decide +kernel
theorem dL_tryNext_1 : decode cL_tryNext 1 = .ok (.iload_n 1, 1) := by decide +kernel
theorem dL_tryNext_2 : decode cL_tryNext 2 = .ok (.invokevirtual 62, 3) := by decide +kernel
theorem dL_tryNext_5 : decode cL_tryNext 5 = .ok (.ireturn, 1) := by decide +kernel
theorem dL_tryNext_6 : decode cL_tryNext 6 = .ok (.astore_n 2, 1) := by decide +kernel
theorem dL_tryNext_7 : decode cL_tryNext 7 = .ok (.ldc 15, 2) := by decide +kernel
theorem dL_tryNext_9 : decode cL_tryNext 9 = .ok (.ireturn, 1) := by decide +kernel
set_option maxRecDepth 20000 in
theorem ggL_tryRank_X5_setRank : GoodIn wsL_tryRank wsX5_setRank := goodIn_ca (goodIn_r _ [7, 8, 9, 10, 11, 12, 13, 14, 15, 16, 17, 18, 19, 20, 21, 22, 23, 24, 25, 26, 27, 28, 29, 30, 31, 32, 33, 34, 35, 36, 37, 38, 39, 40, 41, 42, 43, 44, 45, 46, 47, 48, 49, 50, 51, 52, 53, 54, 55, 56, 57, 58, 59, 60, 61, 62, 63, 64, 65, 66, 67, 68, 69, 70, 71, 72, 73, 74, 75, 76, 77, 78, 79, 80, 81, 82, 83, 84, 85, 86, 87, 88, 89, 90, 91, 92] (by decide +kernel) (by decide +kernel)) (goodIn_sub (fun _ h => List.mem_cons_of_mem _ (List.mem_append_right _ h)) (by decide +kernel))
set_option maxRecDepth 20000 in
theorem gL_tryRank_X5_setRank : GoodIn wsL_tryRank (wsV RL 65 RX5 yX5_setRank wsX5_setRank) := goodIn_app (goodIn_of _ (by decide +kernel)) ggL_tryRank_X5_setRank
theorem dL_tryRank_0 : decode cL_tryRank 0 = .ok (.aload_n 0, 1) := by decide +kernel
theorem dL_tryRank_1 : decode cL_tryRank 1 = .ok (.iload_n 1, 1) := by decide +kernel
theorem dL_tryRank_2 : decode cL_tryRank 2 = .ok (.invokevirtual 65, 3) := by decide +kernel
theorem dL_tryRank_5 : decode cL_tryRank 5 = .ok (.ireturn, 1) := by decide +kernel
theorem dL_tryRank_6 : decode cL_tryRank 6 = .ok (.astore_n 2, 1) := by decide +kernel
theorem dL_tryRank_7 : decode cL_tryRank 7 = .ok (.ldc 15, 2) := by decide +kernel
theorem dL_tryRank_9 : decode cL_tryRank 9 = .ok (.ireturn, 1) := by decide +kernel
set_option maxRecDepth 20000 in
theorem ggL_tryDraw_X5_setDraw : GoodIn wsL_tryDraw wsX5_setDraw := goodIn_ca (goodIn_ca (goodIn_ca (goodIn_r _ [11, 12, 13, 14, 15, 16, 17, 18, 19, 20, 21, 22, 23, 24, 25, 26, 27, 28, 10, 29, 30, 31, 32, 33, 34, 35, 36, 37, 38, 39, 40, 41, 42, 43, 44, 45, 46, 47, 48, 49, 50, 51, 52, 53, 54, 55, 56, 57, 58, 59, 60, 61, 62, 63, 64, 65, 66, 67, 68, 69, 70, 71, 72, 73, 74, 75, 76, 77, 78, 79, 80, 81, 82, 83, 84, 85, 86, 87, 88, 89] (by decide +kernel) (by decide +kernel)) (goodIn_sub (fun _ h => List.mem_cons_of_mem _ (List.mem_append_left _ (List.mem_append_left _ (List.mem_append_right _ h)))) (by decide +kernel))) (goodIn_sub (fun _ h => List.mem_cons_of_mem _ (List.mem_append_left _ (List.mem_append_right _ h))) (by decide +kernel))) (goodIn_sub (fun _ h => List.mem_cons_of_mem _ (List.mem_append_right _ h)) (by decide +kernel))
set_option maxRecDepth 20000 in
theorem gL_tryDraw_X5_setDraw : GoodIn wsL_tryDraw (wsV RL 68 RX5 yX5_setDraw wsX5_setDraw) := goodIn_app (goodIn_of _ (by decide +kernel)) ggL_tryDraw_X5_setDraw
theorem dL_tryDraw_0 : decode cL_tryDraw 0 = .ok (.aload_n 0, 1) := by decide +kernel
theorem dL_tryDraw_1 : decode cL_tryDraw 1 = .ok (.iload_n 1, 1) := by decide +kernel
theorem dL_tryDraw_2 : decode cL_tryDraw 2 = .ok (.iload_n 2, 1) := by decide +kernel
theorem dL_tryDraw_3 : decode cL_tryDraw 3 = .ok (.invokevirtual 68, 3) := by decide +kernel
theorem dL_tryDraw_6 : decode cL_tryDraw 6 = .ok (.ireturn, 1) := by decide +kernel
theorem dL_tryDraw_7 : decode cL_tryDraw 7 = .ok (.astore_n 3, 1) := by decide +kernel
theorem dL_tryDraw_8 : decode cL_tryDraw 8 = .ok (.ldc 43, 2) := by decide +kernel
theorem dL_tryDraw_10 : decode cL_tryDraw 10 = .ok (.ireturn, 1) := by decide +kernel
theorem dL_tryDraw_11 : decode cL_tryDraw 11 = .ok (.astore_n 3, 1) := by decide +kernel
theorem dL_tryDraw_12 : decode cL_tryDraw 12 = .ok (.ldc 15, 2) := by decide +kernel
theorem dL_tryDraw_14 : decode cL_tryDraw 14 = .ok (.ireturn, 1) := by decide +kernel
theorem dL_tryDraw_15 : decode cL_tryDraw 15 = .ok (.astore_n 3, 1) := by decide +kernel
theorem dL_tryDraw_16 : decode cL_tryDraw 16 = .ok (.ldc 18, 2) := by decide +kernel
theorem dL_tryDraw_18 : decode cL_tryDraw 18 = .ok (.ireturn, 1) := by decide +kernel
set_option maxRecDepth 20000 in
theorem ggL_tryUndo_X5_undo : GoodIn wsL_tryUndo wsX5_undo := goodIn_ca (goodIn_r _ [7, 8, 9, 10, 11, 12, 13, 14, 15, 16, 17, 18, 19, 20, 21, 22, 23, 24, 25, 26, 27, 28, 29, 30, 31, 32, 33, 34, 35, 36, 37, 38, 39, 40, 41, 42, 43, 44, 45, 46, 47, 48, 49, 50, 51, 52, 53, 54, 55, 56, 57, 58, 59, 60, 61, 62, 63, 64, 65, 66, 67, 68, 69, 70, 71, 72, 73] (by decide +kernel) (by decide +kernel)) (goodIn_sub (fun _ h => List.mem_cons_of_mem _ (List.mem_append_right _ h)) (by decide +kernel))
set_option maxRecDepth 20000 in
theorem gL_tryUndo_X5_undo : GoodIn wsL_tryUndo (wsV RL 71 RX5 yX5_undo wsX5_undo) := goodIn_app (goodIn_of _ (by decide +kernel)) ggL_tryUndo_X5_undo
theorem dL_tryUndo_0 : decode cL_tryUndo 0 = .ok (.aload_n 0, 1) := by decide +kernel
theorem dL_tryUndo_1 : decode cL_tryUndo 1 = .ok (.invokevirtual 71, 3) := by decide +kernel
theorem dL_tryUndo_4 : decode cL_tryUndo 4 = .ok (.ireturn, 1) := by decide +kernel
theorem dL_tryUndo_5 : decode cL_tryUndo 5 = .ok (.astore_n 1, 1) := by decide +kernel
theorem dL_tryUndo_6 : decode cL_tryUndo 6 = .ok (.ldc 18, 2) := by decide +kernel
theorem dL_tryUndo_8 : decode cL_tryUndo 8 = .ok (.ireturn, 1) := by decide +kernel
set_option maxRecDepth 20000 in
theorem ggL_tryLeft_X5_runsLeft : GoodIn wsL_tryLeft wsX5_runsLeft := goodIn_ca (goodIn_r _ [7, 8, 9, 10, 11, 12, 13, 14, 15, 16, 17, 18, 6, 19, 20, 21, 22, 23, 24, 25, 26, 27, 28, 29, 30, 31, 32, 33, 34, 35, 36, 37, 38, 39, 40, 41, 42, 43, 44, 45, 46, 47, 48, 49, 50, 51, 52, 53] (by decide +kernel) (by decide +kernel)) (goodIn_sub (fun _ h => List.mem_cons_of_mem _ (List.mem_append_right _ h)) (by decide +kernel))
set_option maxRecDepth 20000 in
theorem gL_tryLeft_X5_runsLeft : GoodIn wsL_tryLeft (wsV RL 74 RX5 yX5_runsLeft wsX5_runsLeft) := goodIn_app (goodIn_of _ (by decide +kernel)) ggL_tryLeft_X5_runsLeft
theorem dL_tryLeft_0 : decode cL_tryLeft 0 = .ok (.aload_n 0, 1) := by decide +kernel
theorem dL_tryLeft_1 : decode cL_tryLeft 1 = .ok (.iload_n 1, 1) := by decide +kernel
theorem dL_tryLeft_2 : decode cL_tryLeft 2 = .ok (.invokevirtual 74, 3) := by decide +kernel
theorem dL_tryLeft_5 : decode cL_tryLeft 5 = .ok (.ireturn, 1) := by decide +kernel
theorem dL_tryLeft_6 : decode cL_tryLeft 6 = .ok (.astore_n 2, 1) := by decide +kernel
theorem dL_tryLeft_7 : decode cL_tryLeft 7 = .ok (.ldc 15, 2) := by decide +kernel
theorem dL_tryLeft_9 : decode cL_tryLeft 9 = .ok (.ireturn, 1) := by decide +kernel
set_option maxRecDepth 20000 in
theorem ggL_tryBest_X5_bestPlace : GoodIn wsL_tryBest wsX5_bestPlace := goodIn_ca (goodIn_r _ [7, 8, 9, 10, 11, 12, 13, 14, 15, 16, 17, 18, 19, 6, 20, 21, 22, 23, 24, 25, 26, 27, 28, 29, 30, 31, 32, 33, 34, 35, 36, 37, 38, 39, 40, 41, 42, 43, 44, 45, 46, 47, 48, 49, 50, 51, 52, 53, 54, 55, 56, 57, 58, 59, 60, 61, 62, 63, 64, 65, 66, 67, 68, 69, 70, 71, 72, 73, 74, 75, 76, 77, 78, 79, 80, 81, 82, 83, 84, 85, 86, 87, 88, 89, 90, 91, 92, 93, 94, 95, 96, 97, 98, 99, 100, 101, 102, 103, 104, 105, 106, 107, 108, 109, 110] (by decide +kernel) (by decide +kernel)) (goodIn_sub (fun _ h => List.mem_cons_of_mem _ (List.mem_append_right _ h)) (by decide +kernel))
set_option maxRecDepth 20000 in
theorem gL_tryBest_X5_bestPlace : GoodIn wsL_tryBest (wsV RL 77 RX5 yX5_bestPlace wsX5_bestPlace) := goodIn_app (goodIn_of _ (by decide +kernel)) ggL_tryBest_X5_bestPlace
theorem dL_tryBest_0 : decode cL_tryBest 0 = .ok (.aload_n 0, 1) := by decide +kernel
theorem dL_tryBest_1 : decode cL_tryBest 1 = .ok (.iload_n 1, 1) := by decide +kernel
theorem dL_tryBest_2 : decode cL_tryBest 2 = .ok (.invokevirtual 77, 3) := by decide +kernel
theorem dL_tryBest_5 : decode cL_tryBest 5 = .ok (.ireturn, 1) := by decide +kernel
theorem dL_tryBest_6 : decode cL_tryBest 6 = .ok (.astore_n 2, 1) := by decide +kernel
theorem dL_tryBest_7 : decode cL_tryBest 7 = .ok (.ldc 43, 2) := by decide +kernel
theorem dL_tryBest_9 : decode cL_tryBest 9 = .ok (.ireturn, 1) := by decide +kernel
set_option maxRecDepth 20000 in
theorem ggL_tryMay_X5_mayLose : GoodIn wsL_tryMay wsX5_mayLose := goodIn_ca (goodIn_ca (goodIn_r _ [9, 10, 11, 12, 13, 14, 15, 16, 17, 18, 19, 20, 21, 22, 23, 24, 25, 26, 27, 28, 29, 8, 30, 31, 32, 33, 34, 35, 36, 37, 38, 39, 40, 41, 42, 43, 44, 45, 46, 47, 48, 49, 50, 51, 52, 53, 54, 55, 56, 57, 58, 59, 60, 61, 62, 63, 64, 65, 66, 67, 68, 69, 70, 71, 72, 73, 74, 75, 76, 77, 78, 79, 80, 81, 82, 83, 84, 85, 86, 87, 88, 89, 90, 91, 92, 93, 94, 95, 96, 97, 98, 99, 100, 101, 102, 103, 104, 105, 106, 107, 108, 109, 110, 111] (by decide +kernel) (by decide +kernel)) (goodIn_sub (fun _ h => List.mem_cons_of_mem _ (List.mem_append_left _ (List.mem_append_right _ h))) (by decide +kernel))) (goodIn_sub (fun _ h => List.mem_cons_of_mem _ (List.mem_append_right _ h)) (by decide +kernel))
set_option maxRecDepth 20000 in
theorem gL_tryMay_X5_mayLose : GoodIn wsL_tryMay (wsV RL 80 RX5 yX5_mayLose wsX5_mayLose) := goodIn_app (goodIn_of _ (by decide +kernel)) ggL_tryMay_X5_mayLose
theorem dL_tryMay_0 : decode cL_tryMay 0 = .ok (.aload_n 0, 1) := by decide +kernel
theorem dL_tryMay_1 : decode cL_tryMay 1 = .ok (.iload_n 1, 1) := by decide +kernel
theorem dL_tryMay_2 : decode cL_tryMay 2 = .ok (.iload_n 2, 1) := by decide +kernel
theorem dL_tryMay_3 : decode cL_tryMay 3 = .ok (.invokevirtual 80, 3) := by decide +kernel
theorem dL_tryMay_6 : decode cL_tryMay 6 = .ok (.ireturn, 1) := by decide +kernel
theorem dL_tryMay_7 : decode cL_tryMay 7 = .ok (.astore_n 3, 1) := by decide +kernel
theorem dL_tryMay_8 : decode cL_tryMay 8 = .ok (.ldc 43, 2) := by decide +kernel
theorem dL_tryMay_10 : decode cL_tryMay 10 = .ok (.ireturn, 1) := by decide +kernel
theorem dL_tryMay_11 : decode cL_tryMay 11 = .ok (.astore_n 3, 1) := by decide +kernel
theorem dL_tryMay_12 : decode cL_tryMay 12 = .ok (.ldc 15, 2) := by decide +kernel
theorem dL_tryMay_14 : decode cL_tryMay 14 = .ok (.ireturn, 1) := by decide +kernel
set_option maxRecDepth 20000 in
theorem ggL_trySave_X5_save : GoodIn wsL_trySave wsX5_save := goodIn_ca (goodIn_r _ [7, 8, 9, 10, 11, 12, 13, 14, 15, 16, 17, 18, 19, 20, 21, 22, 23, 24, 25, 26, 27, 28, 29, 30, 31, 32, 33, 34, 35, 36, 37, 38, 39, 40, 41, 42, 43, 44, 45, 46, 47, 48, 49, 50, 51, 52, 53, 54, 55, 56, 57, 58, 59, 60, 61, 62, 63] (by decide +kernel) (by decide +kernel)) (goodIn_sub (fun _ h => List.mem_cons_of_mem _ (List.mem_append_right _ h)) (by decide +kernel))
set_option maxRecDepth 20000 in
theorem gL_trySave_X5_save : GoodIn wsL_trySave (wsV RL 83 RX5 yX5_save wsX5_save) := goodIn_app (goodIn_of _ (by decide +kernel)) ggL_trySave_X5_save
theorem dL_trySave_0 : decode cL_trySave 0 = .ok (.aload_n 0, 1) := by decide +kernel
theorem dL_trySave_1 : decode cL_trySave 1 = .ok (.iload_n 1, 1) := by decide +kernel
theorem dL_trySave_2 : decode cL_trySave 2 = .ok (.invokevirtual 83, 3) := by decide +kernel
theorem dL_trySave_5 : decode cL_trySave 5 = .ok (.ireturn, 1) := by decide +kernel
theorem dL_trySave_6 : decode cL_trySave 6 = .ok (.astore_n 2, 1) := by decide +kernel
theorem dL_trySave_7 : decode cL_trySave 7 = .ok (.ldc 43, 2) := by decide +kernel
theorem dL_trySave_9 : decode cL_trySave 9 = .ok (.ireturn, 1) := by decide +kernel
set_option maxRecDepth 20000 in
theorem ggL_tryRestore_X5_restore : GoodIn wsL_tryRestore wsX5_restore := goodIn_ca (goodIn_ca (goodIn_r _ [9, 10, 11, 12, 13, 14, 15, 16, 17, 18, 19, 20, 21, 22, 23, 24, 25, 26, 27, 28, 29, 30, 31, 32, 33, 34, 35, 36, 37, 38, 39, 40, 41, 42, 43, 44, 45, 46, 47, 48, 49, 50, 51, 52, 53, 54, 55, 56, 57, 58, 59, 60, 61, 62, 63, 64, 65, 66, 67, 68, 69, 70, 71, 72, 73, 74, 75, 76, 77] (by decide +kernel) (by decide +kernel)) (goodIn_sub (fun _ h => List.mem_cons_of_mem _ (List.mem_append_left _ (List.mem_append_right _ h))) (by decide +kernel))) (goodIn_sub (fun _ h => List.mem_cons_of_mem _ (List.mem_append_right _ h)) (by decide +kernel))
set_option maxRecDepth 20000 in
theorem gL_tryRestore_X5_restore : GoodIn wsL_tryRestore (wsV RL 86 RX5 yX5_restore wsX5_restore) := goodIn_app (goodIn_of _ (by decide +kernel)) ggL_tryRestore_X5_restore
theorem dL_tryRestore_0 : decode cL_tryRestore 0 = .ok (.aload_n 0, 1) := by decide +kernel
theorem dL_tryRestore_1 : decode cL_tryRestore 1 = .ok (.iload_n 1, 1) := by decide +kernel
theorem dL_tryRestore_2 : decode cL_tryRestore 2 = .ok (.invokevirtual 86, 3) := by decide +kernel
theorem dL_tryRestore_5 : decode cL_tryRestore 5 = .ok (.ireturn, 1) := by decide +kernel
theorem dL_tryRestore_6 : decode cL_tryRestore 6 = .ok (.astore_n 2, 1) := by decide +kernel
theorem dL_tryRestore_7 : decode cL_tryRestore 7 = .ok (.ldc 43, 2) := by decide +kernel
theorem dL_tryRestore_9 : decode cL_tryRestore 9 = .ok (.ireturn, 1) := by decide +kernel
theorem dL_tryRestore_10 : decode cL_tryRestore 10 = .ok (.astore_n 2, 1) := by decide +kernel
theorem dL_tryRestore_11 : decode cL_tryRestore 11 = .ok (.ldc 18, 2) := by decide +kernel
theorem dL_tryRestore_13 : decode cL_tryRestore 13 = .ok (.ireturn, 1) := by decide +kernel
set_option maxRecDepth 20000 in
theorem ggL_call_L_tryAppend : GoodIn wsL_call wsL_tryAppend := goodIn_ca (goodIn_ca (goodIn_r _ [4, 5, 6, 7, 8, 9, 10, 11, 12, 13, 14, 15, 16, 17, 18, 19, 20, 21, 22, 23, 24, 25, 26, 27, 28, 29, 415, 416, 417, 418, 419, 420, 421, 422, 423, 424, 425] (by decide +kernel) (by decide +kernel)) (goodIn_sub (fun _ h => List.mem_cons_of_mem _ (List.mem_append_left _ (List.mem_append_left _ (List.mem_append_right _ h)))) (by decide +kernel))) (goodIn_sub (fun _ h => List.mem_cons_of_mem _ (List.mem_append_left _ (List.mem_append_right _ h))) (by decide +kernel))
set_option maxRecDepth 20000 in
theorem gL_call_L_tryAppend : GoodIn wsL_call (va_wsS RL 89 yL_tryAppend wsL_tryAppend) := goodIn_app (goodIn_of _ (by decide +kernel)) ggL_call_L_tryAppend
set_option maxRecDepth 20000 in
theorem ggL_call_L_tryLoad : GoodIn wsL_call wsL_tryLoad := goodIn_ca (goodIn_r _ [32, 6, 8, 33, 34, 35, 12, 36, 16, 17, 18, 37, 38, 39, 40, 41, 42, 43, 44, 22, 45, 46, 24, 47, 48, 49, 50, 51, 52, 53, 54, 55, 56, 57, 58, 59, 60, 61, 62, 63, 64, 65, 66, 67, 68, 29, 69, 70, 71, 72, 73, 74, 75, 76, 77, 78, 79, 80, 81, 82, 83, 84, 85, 86, 87, 88, 89, 90, 91, 92, 93, 94, 95, 96, 97, 98, 99, 100, 101, 102, 103, 104, 105, 106, 107, 108, 109, 110, 111, 112, 113, 114, 115, 116, 117, 118, 119, 120, 121, 122, 123, 124, 125, 126, 127, 128, 129, 415, 416, 417, 418, 419, 420, 421, 422, 426, 427, 428, 429, 430, 431, 432, 433, 434, 435, 436, 437, 438, 439, 440, 423, 424, 425, 441, 442, 443] (by decide +kernel) (by decide +kernel)) (goodIn_sub (fun _ h => List.mem_cons_of_mem _ (List.mem_append_left _ (List.mem_append_right _ h))) (by decide +kernel))
set_option maxRecDepth 20000 in
theorem gL_call_L_tryLoad : GoodIn wsL_call (va_wsS RL 95 yL_tryLoad wsL_tryLoad) := goodIn_app (goodIn_of _ (by decide +kernel)) ggL_call_L_tryLoad
set_option maxRecDepth 20000 in
theorem ggL_call_L_tryAbout : GoodIn wsL_call wsL_tryAbout := goodIn_ca (goodIn_r _ [132, 5, 7, 133, 134, 135, 12, 136, 14, 15, 38, 41, 137, 138, 139, 140, 141, 142, 143, 144, 145, 146, 147, 50, 148, 52, 149, 150, 151, 152, 105, 153, 154, 155, 156, 106, 157, 158, 159, 160, 415, 416, 417, 418, 419, 420, 421, 422, 426, 427, 428, 429, 430, 431, 432, 433, 434, 435, 436, 437, 438, 439, 440] (by decide +kernel) (by decide +kernel)) (goodIn_sub (fun _ h => List.mem_cons_of_mem _ (List.mem_append_left _ (List.mem_append_left _ (List.mem_append_right _ h)))) (by decide +kernel))
set_option maxRecDepth 20000 in
theorem gL_call_L_tryAbout : GoodIn wsL_call (va_wsS RL 99 yL_tryAbout wsL_tryAbout) := goodIn_app (goodIn_of _ (by decide +kernel)) ggL_call_L_tryAbout
set_option maxRecDepth 20000 in
theorem ggL_call_L_tryDog : GoodIn wsL_call wsL_tryDog := goodIn_ca (goodIn_ca (goodIn_r _ [163, 164, 5, 165, 7, 166, 167, 168, 12, 169, 170, 171, 14, 15, 38, 172, 173, 174, 175, 176, 177, 178, 179, 180, 50, 181, 52, 182, 183, 184, 185, 106, 186, 187, 188, 189, 107, 123, 190, 191, 192, 193, 194, 195, 196, 197, 53, 198, 199, 200, 201, 202, 203, 204, 205, 206, 207, 208, 209, 210, 211, 212, 213, 214, 215, 216, 57, 104, 217, 218, 219, 220, 221, 222, 415, 416, 417, 418, 419, 420, 421, 422, 426, 427, 428, 429, 430, 431, 432, 433, 434, 435, 436, 437, 438, 439, 440, 444, 445, 446, 447] (by decide +kernel) (by decide +kernel)) (goodIn_sub (fun _ h => List.mem_cons_of_mem _ (List.mem_append_right _ h)) (by decide +kernel))) (goodIn_sub (fun _ h => List.mem_cons_of_mem _ (List.mem_append_left _ (List.mem_append_left _ (List.mem_append_right _ h)))) (by decide +kernel))
set_option maxRecDepth 20000 in
theorem gL_call_L_tryDog : GoodIn wsL_call (va_wsS RL 102 yL_tryDog wsL_tryDog) := goodIn_app (goodIn_of _ (by decide +kernel)) ggL_call_L_tryDog
set_option maxRecDepth 20000 in
theorem ggL_call_L_tryLost : GoodIn wsL_call wsL_tryLost := goodIn_ca (goodIn_r _ [225, 164, 165, 226, 227, 228, 12, 229, 170, 171, 38, 175, 178, 179, 180, 50, 181, 52, 230, 113, 114, 231, 187, 188, 189, 107, 123, 415, 416, 417, 418, 419, 420, 421, 422, 426, 427, 428, 429, 430, 431, 432, 433, 434, 435, 436, 437, 438, 439, 440] (by decide +kernel) (by decide +kernel)) (goodIn_sub (fun _ h => List.mem_cons_of_mem _ (List.mem_append_right _ h)) (by decide +kernel))
set_option maxRecDepth 20000 in
theorem gL_call_L_tryLost : GoodIn wsL_call (va_wsS RL 106 yL_tryLost wsL_tryLost) := goodIn_app (goodIn_of _ (by decide +kernel)) ggL_call_L_tryLost
set_option maxRecDepth 20000 in
theorem ggL_call_L_tryOrder : GoodIn wsL_call wsL_tryOrder := goodIn_ca (goodIn_r _ [234, 5, 7, 235, 236, 237, 12, 238, 14, 15, 177, 38, 239, 240, 241, 202, 242, 204, 205, 206, 207, 208, 209, 210, 211, 212, 213, 214, 215, 50, 216, 57, 52, 104, 217, 218, 219, 220, 221, 222, 415, 416, 417, 418, 419, 420, 421, 422, 444, 445, 446, 447, 426, 427, 428, 429, 430, 431, 432, 433, 434, 435, 436, 437, 438, 439, 440] (by decide +kernel) (by decide +kernel)) (goodIn_sub (fun _ h => List.mem_cons_of_mem _ (List.mem_append_left _ (List.mem_append_left _ (List.mem_append_right _ h)))) (by decide +kernel))
set_option maxRecDepth 20000 in
theorem gL_call_L_tryOrder : GoodIn wsL_call (va_wsS RL 109 yL_tryOrder wsL_tryOrder) := goodIn_app (goodIn_of _ (by decide +kernel)) ggL_call_L_tryOrder
set_option maxRecDepth 20000 in
theorem ggL_call_L_tryOwner : GoodIn wsL_call wsL_tryOwner := goodIn_ca (goodIn_r _ [245, 5, 7, 246, 247, 248, 12, 249, 14, 15, 38, 250, 85, 86, 251, 252, 253, 50, 254, 52, 104, 255, 256, 257, 258, 259, 260, 261, 198, 183, 184, 185, 106, 186, 187, 188, 189, 107, 123, 415, 416, 417, 418, 419, 420, 421, 422, 426, 427, 428, 429, 430, 431, 432, 433, 434, 435, 436, 437, 438, 439, 440] (by decide +kernel) (by decide +kernel)) (goodIn_sub (fun _ h => List.mem_cons_of_mem _ (List.mem_append_left _ (List.mem_append_left _ (List.mem_append_right _ h)))) (by decide +kernel))
set_option maxRecDepth 20000 in
theorem gL_call_L_tryOwner : GoodIn wsL_call (va_wsS RL 112 yL_tryOwner wsL_tryOwner) := goodIn_app (goodIn_of _ (by decide +kernel)) ggL_call_L_tryOwner
set_option maxRecDepth 20000 in
theorem ggL_call_L_tryEnter : GoodIn wsL_call wsL_tryEnter := goodIn_ca (goodIn_ca (goodIn_r _ [264, 5, 6, 7, 8, 265, 266, 267, 12, 268, 14, 15, 16, 17, 38, 41, 39, 250, 85, 86, 269, 93, 94, 270, 96, 97, 50, 98, 52, 99, 271, 272, 273, 127, 274, 129, 275, 276, 277, 116, 117, 118, 104, 119, 120, 121, 122, 105, 107, 123, 53, 106, 54, 55, 56, 57, 58, 59, 60, 278, 101, 102, 103, 415, 416, 417, 418, 419, 420, 421, 422, 426, 427, 428, 429, 430, 431, 432, 433, 434, 435, 436, 437, 438, 439, 440, 441, 442, 443] (by decide +kernel) (by decide +kernel)) (goodIn_sub (fun _ h => List.mem_cons_of_mem _ (List.mem_append_left _ (List.mem_append_left _ (List.mem_append_right _ h)))) (by decide +kernel))) (goodIn_sub (fun _ h => List.mem_cons_of_mem _ (List.mem_append_left _ (List.mem_append_right _ h))) (by decide +kernel))
set_option maxRecDepth 20000 in
theorem gL_call_L_tryEnter : GoodIn wsL_call (va_wsS RL 115 yL_tryEnter wsL_tryEnter) := goodIn_app (goodIn_of _ (by decide +kernel)) ggL_call_L_tryEnter
set_option maxRecDepth 20000 in
theorem ggL_call_L_tryWithdraw : GoodIn wsL_call wsL_tryWithdraw := goodIn_ca (goodIn_ca (goodIn_r _ [281, 164, 6, 165, 8, 282, 283, 284, 12, 285, 170, 171, 16, 17, 38, 174, 39, 178, 179, 180, 50, 181, 52, 271, 272, 273, 127, 274, 129, 275, 276, 277, 116, 117, 118, 104, 119, 120, 121, 122, 99, 105, 107, 123, 53, 106, 54, 55, 56, 57, 58, 59, 60, 415, 416, 417, 418, 419, 420, 421, 422, 426, 427, 428, 429, 430, 431, 432, 433, 434, 435, 436, 437, 438, 439, 440, 441, 442, 443] (by decide +kernel) (by decide +kernel)) (goodIn_sub (fun _ h => List.mem_cons_of_mem _ (List.mem_append_right _ h)) (by decide +kernel))) (goodIn_sub (fun _ h => List.mem_cons_of_mem _ (List.mem_append_left _ (List.mem_append_right _ h))) (by decide +kernel))
set_option maxRecDepth 20000 in
theorem gL_call_L_tryWithdraw : GoodIn wsL_call (va_wsS RL 118 yL_tryWithdraw wsL_tryWithdraw) := goodIn_app (goodIn_of _ (by decide +kernel)) ggL_call_L_tryWithdraw
set_option maxRecDepth 20000 in
theorem ggL_call_L_tryInterfere : GoodIn wsL_call wsL_tryInterfere := goodIn_ca (goodIn_ca (goodIn_r _ [288, 164, 6, 165, 8, 289, 290, 291, 12, 292, 170, 171, 16, 17, 38, 174, 39, 178, 179, 180, 50, 181, 52, 230, 113, 114, 271, 272, 273, 127, 274, 129, 275, 276, 277, 116, 117, 118, 104, 119, 120, 121, 122, 99, 105, 107, 123, 53, 106, 54, 55, 56, 57, 58, 59, 60, 293, 294, 295, 296, 182, 183, 184, 185, 186, 187, 188, 189, 415, 416, 417, 418, 419, 420, 421, 422, 426, 427, 428, 429, 430, 431, 432, 433, 434, 435, 436, 437, 438, 439, 440, 441, 442, 443] (by decide +kernel) (by decide +kernel)) (goodIn_sub (fun _ h => List.mem_cons_of_mem _ (List.mem_append_right _ h)) (by decide +kernel))) (goodIn_sub (fun _ h => List.mem_cons_of_mem _ (List.mem_append_left _ (List.mem_append_right _ h))) (by decide +kernel))
set_option maxRecDepth 20000 in
theorem gL_call_L_tryInterfere : GoodIn wsL_call (va_wsS RL 121 yL_tryInterfere wsL_tryInterfere) := goodIn_app (goodIn_of _ (by decide +kernel)) ggL_call_L_tryInterfere
set_option maxRecDepth 20000 in
theorem ggL_call_L_tryNext : GoodIn wsL_call wsL_tryNext := goodIn_ca (goodIn_r _ [299, 5, 7, 300, 301, 302, 12, 303, 14, 15, 39, 38, 137, 304, 305, 306, 271, 272, 273, 127, 274, 129, 275, 276, 277, 116, 117, 50, 118, 52, 104, 119, 120, 121, 122, 99, 105, 107, 123, 53, 106, 54, 55, 56, 57, 58, 59, 60, 307, 308, 309, 310, 415, 416, 417, 418, 419, 420, 421, 422, 426, 427, 428, 429, 430, 431, 432, 433, 434, 435, 436, 437, 438, 439, 440, 441, 442, 443] (by decide +kernel) (by decide +kernel)) (goodIn_sub (fun _ h => List.mem_cons_of_mem _ (List.mem_append_left _ (List.mem_append_left _ (List.mem_append_right _ h)))) (by decide +kernel))
set_option maxRecDepth 20000 in
theorem gL_call_L_tryNext : GoodIn wsL_call (va_wsS RL 124 yL_tryNext wsL_tryNext) := goodIn_app (goodIn_of _ (by decide +kernel)) ggL_call_L_tryNext
set_option maxRecDepth 20000 in
theorem ggL_call_L_tryRank : GoodIn wsL_call wsL_tryRank := goodIn_ca (goodIn_r _ [313, 5, 7, 314, 315, 316, 12, 317, 14, 15, 37, 38, 41, 39, 115, 116, 117, 50, 118, 52, 104, 119, 120, 121, 122, 99, 105, 107, 123, 53, 106, 54, 55, 56, 57, 58, 59, 60, 318, 319, 320, 321, 190, 191, 192, 193, 194, 195, 196, 197, 198, 183, 184, 185, 186, 187, 188, 189, 271, 272, 273, 127, 274, 129, 275, 276, 277, 415, 416, 417, 418, 419, 420, 421, 422, 426, 427, 428, 429, 430, 431, 432, 433, 434, 435, 436, 437, 438, 439, 440, 441, 442, 443] (by decide +kernel) (by decide +kernel)) (goodIn_sub (fun _ h => List.mem_cons_of_mem _ (List.mem_append_left _ (List.mem_append_left _ (List.mem_append_right _ h)))) (by decide +kernel))
set_option maxRecDepth 20000 in
theorem gL_call_L_tryRank : GoodIn wsL_call (va_wsS RL 127 yL_tryRank wsL_tryRank) := goodIn_app (goodIn_of _ (by decide +kernel)) ggL_call_L_tryRank
set_option maxRecDepth 20000 in
theorem ggL_call_L_tryDraw : GoodIn wsL_call wsL_tryDraw := goodIn_ca (goodIn_ca (goodIn_ca (goodIn_r _ [324, 164, 5, 6, 165, 7, 8, 325, 326, 327, 12, 328, 170, 171, 14, 15, 16, 17, 38, 39, 173, 178, 179, 180, 50, 181, 52, 269, 93, 94, 270, 96, 97, 98, 99, 271, 272, 273, 127, 274, 129, 275, 276, 277, 116, 117, 118, 104, 119, 120, 121, 122, 105, 107, 123, 53, 106, 54, 55, 56, 57, 58, 59, 60, 415, 416, 417, 418, 419, 420, 421, 422, 426, 427, 428, 429, 430, 431, 432, 433, 434, 435, 436, 437, 438, 439, 440, 441, 442, 443] (by decide +kernel) (by decide +kernel)) (goodIn_sub (fun _ h => List.mem_cons_of_mem _ (List.mem_append_right _ h)) (by decide +kernel))) (goodIn_sub (fun _ h => List.mem_cons_of_mem _ (List.mem_append_left _ (List.mem_append_left _ (List.mem_append_right _ h)))) (by decide +kernel))) (goodIn_sub (fun _ h => List.mem_cons_of_mem _ (List.mem_append_left _ (List.mem_append_right _ h))) (by decide +kernel))
set_option maxRecDepth 20000 in
theorem gL_call_L_tryDraw : GoodIn wsL_call (va_wsS RL 130 yL_tryDraw wsL_tryDraw) := goodIn_app (goodIn_of _ (by decide +kernel)) ggL_call_L_tryDraw
set_option maxRecDepth 20000 in
theorem ggL_call_L_tryUndo : GoodIn wsL_call wsL_tryUndo := goodIn_ca (goodIn_r _ [331, 6, 8, 332, 333, 334, 12, 335, 16, 17, 39, 38, 336, 337, 338, 127, 339, 129, 340, 341, 342, 343, 276, 275, 277, 116, 117, 50, 118, 52, 104, 119, 120, 121, 122, 99, 105, 107, 123, 53, 106, 54, 55, 56, 57, 58, 59, 60, 415, 416, 417, 418, 419, 420, 421, 422, 441, 442, 443, 426, 427, 428, 429, 430, 431, 432, 433, 434, 435, 436, 437, 438, 439, 440] (by decide +kernel) (by decide +kernel)) (goodIn_sub (fun _ h => List.mem_cons_of_mem _ (List.mem_append_left _ (List.mem_append_right _ h))) (by decide +kernel))
set_option maxRecDepth 20000 in
theorem gL_call_L_tryUndo : GoodIn wsL_call (va_wsS RL 133 yL_tryUndo wsL_tryUndo) := goodIn_app (goodIn_of _ (by decide +kernel)) ggL_call_L_tryUndo
set_option maxRecDepth 20000 in
theorem ggL_call_L_tryLeft : GoodIn wsL_call wsL_tryLeft := goodIn_ca (goodIn_r _ [346, 5, 7, 347, 348, 349, 12, 350, 14, 15, 38, 139, 138, 351, 256, 257, 258, 352, 353, 354, 145, 146, 147, 50, 148, 52, 149, 150, 151, 152, 105, 415, 416, 417, 418, 419, 420, 421, 422, 426, 427, 428, 429, 430, 431, 432, 433, 434, 435, 436, 437, 438, 439, 440] (by decide +kernel) (by decide +kernel)) (goodIn_sub (fun _ h => List.mem_cons_of_mem _ (List.mem_append_left _ (List.mem_append_left _ (List.mem_append_right _ h)))) (by decide +kernel))
set_option maxRecDepth 20000 in
theorem gL_call_L_tryLeft : GoodIn wsL_call (va_wsS RL 136 yL_tryLeft wsL_tryLeft) := goodIn_app (goodIn_of _ (by decide +kernel)) ggL_call_L_tryLeft
set_option maxRecDepth 20000 in
theorem ggL_call_L_tryBest : GoodIn wsL_call wsL_tryBest := goodIn_ca (goodIn_r _ [357, 164, 165, 358, 359, 360, 12, 361, 170, 171, 38, 178, 179, 180, 50, 181, 52, 362, 363, 364, 365, 37, 366, 150, 151, 152, 105, 190, 191, 192, 193, 106, 194, 195, 196, 197, 53, 198, 183, 184, 185, 186, 187, 188, 189, 107, 123, 367, 368, 369, 370, 177, 371, 115, 116, 117, 118, 104, 119, 120, 121, 122, 99, 54, 55, 56, 57, 58, 59, 60, 372, 373, 374, 202, 375, 376, 377, 378, 379, 380, 381, 382, 383, 384, 415, 416, 417, 418, 419, 420, 421, 422, 426, 427, 428, 429, 430, 431, 432, 433, 434, 435, 436, 437, 438, 439, 440, 444, 445, 446, 447] (by decide +kernel) (by decide +kernel)) (goodIn_sub (fun _ h => List.mem_cons_of_mem _ (List.mem_append_right _ h)) (by decide +kernel))
set_option maxRecDepth 20000 in
theorem gL_call_L_tryBest : GoodIn wsL_call (va_wsS RL 139 yL_tryBest wsL_tryBest) := goodIn_app (goodIn_of _ (by decide +kernel)) ggL_call_L_tryBest
set_option maxRecDepth 20000 in
theorem ggL_call_L_tryMay : GoodIn wsL_call wsL_tryMay := goodIn_ca (goodIn_ca (goodIn_r _ [387, 164, 5, 165, 7, 388, 389, 390, 12, 391, 170, 171, 14, 15, 38, 37, 178, 179, 180, 50, 181, 52, 366, 150, 151, 152, 105, 367, 368, 369, 370, 177, 371, 115, 116, 117, 118, 104, 119, 120, 121, 122, 99, 107, 123, 53, 106, 54, 55, 56, 57, 58, 59, 60, 372, 373, 374, 202, 375, 376, 377, 378, 379, 380, 381, 382, 383, 384, 182, 183, 184, 185, 186, 187, 188, 189, 392, 393, 394, 395, 396, 397, 398, 399, 198, 415, 416, 417, 418, 419, 420, 421, 422, 426, 427, 428, 429, 430, 431, 432, 433, 434, 435, 436, 437, 438, 439, 440, 444, 445, 446, 447] (by decide +kernel) (by decide +kernel)) (goodIn_sub (fun _ h => List.mem_cons_of_mem _ (List.mem_append_right _ h)) (by decide +kernel))) (goodIn_sub (fun _ h => List.mem_cons_of_mem _ (List.mem_append_left _ (List.mem_append_left _ (List.mem_append_right _ h)))) (by decide +kernel))
set_option maxRecDepth 20000 in
theorem gL_call_L_tryMay : GoodIn wsL_call (va_wsS RL 142 yL_tryMay wsL_tryMay) := goodIn_app (goodIn_of _ (by decide +kernel)) ggL_call_L_tryMay
set_option maxRecDepth 20000 in
theorem ggL_call_L_trySave : GoodIn wsL_call wsL_trySave := goodIn_ca (goodIn_r _ [402, 164, 165, 403, 404, 405, 12, 406, 170, 171, 407, 38, 40, 115, 116, 117, 50, 118, 52, 104, 119, 120, 121, 122, 99, 105, 107, 123, 53, 106, 54, 55, 56, 57, 58, 59, 60, 153, 154, 155, 156, 415, 416, 417, 418, 419, 420, 421, 422, 426, 427, 428, 429, 430, 431, 432, 433, 434, 435, 436, 437, 438, 439, 440] (by decide +kernel) (by decide +kernel)) (goodIn_sub (fun _ h => List.mem_cons_of_mem _ (List.mem_append_right _ h)) (by decide +kernel))
set_option maxRecDepth 20000 in
theorem gL_call_L_trySave : GoodIn wsL_call (va_wsS RL 145 yL_trySave wsL_trySave) := goodIn_app (goodIn_of _ (by decide +kernel)) ggL_call_L_trySave
set_option maxRecDepth 20000 in
theorem ggL_call_L_tryRestore : GoodIn wsL_call wsL_tryRestore := goodIn_ca (goodIn_ca (goodIn_r _ [410, 164, 6, 165, 8, 411, 412, 413, 12, 414, 170, 171, 16, 17, 40, 38, 407, 39, 115, 116, 117, 50, 118, 52, 104, 119, 120, 121, 122, 99, 105, 107, 123, 53, 106, 54, 55, 56, 57, 58, 59, 60, 124, 125, 126, 127, 128, 129, 153, 154, 155, 156, 415, 416, 417, 418, 419, 420, 421, 422, 426, 427, 428, 429, 430, 431, 432, 433, 434, 435, 436, 437, 438, 439, 440, 441, 442, 443] (by decide +kernel) (by decide +kernel)) (goodIn_sub (fun _ h => List.mem_cons_of_mem _ (List.mem_append_right _ h)) (by decide +kernel))) (goodIn_sub (fun _ h => List.mem_cons_of_mem _ (List.mem_append_left _ (List.mem_append_right _ h))) (by decide +kernel))
set_option maxRecDepth 20000 in
theorem gL_call_L_tryRestore : GoodIn wsL_call (va_wsS RL 148 yL_tryRestore wsL_tryRestore) := goodIn_app (goodIn_of _ (by decide +kernel)) ggL_call_L_tryRestore
theorem dL_call_0 : decode cL_call 0 = .ok (.iload_n 1, 1) := by decide +kernel
theorem dL_call_1 : decode cL_call 1 = .ok (.tableswitch 199 0 17 #[87, 93, 98, 104, 111, 118, 124, 130, 137, 143, 150, 156, 162, 169, 174, 180, 186, 193], 87) := by decide +kernel
theorem dL_call_88 : decode cL_call 88 = .ok (.aload_n 0, 1) := by decide +kernel
theorem dL_call_89 : decode cL_call 89 = .ok (.iload_n 2, 1) := by decide +kernel
theorem dL_call_90 : decode cL_call 90 = .ok (.invokestatic 89, 3) := by decide +kernel
theorem dL_call_93 : decode cL_call 93 = .ok (.ireturn, 1) := by decide +kernel
theorem dL_call_94 : decode cL_call 94 = .ok (.aload_n 0, 1) := by decide +kernel
theorem dL_call_95 : decode cL_call 95 = .ok (.invokestatic 95, 3) := by decide +kernel
theorem dL_call_98 : decode cL_call 98 = .ok (.ireturn, 1) := by decide +kernel
theorem dL_call_99 : decode cL_call 99 = .ok (.aload_n 0, 1) := by decide +kernel
theorem dL_call_100 : decode cL_call 100 = .ok (.iload_n 2, 1) := by decide +kernel
theorem dL_call_101 : decode cL_call 101 = .ok (.invokestatic 99, 3) := by decide +kernel
theorem dL_call_104 : decode cL_call 104 = .ok (.ireturn, 1) := by decide +kernel
theorem dL_call_105 : decode cL_call 105 = .ok (.aload_n 0, 1) := by decide +kernel
theorem dL_call_106 : decode cL_call 106 = .ok (.iload_n 2, 1) := by decide +kernel
theorem dL_call_107 : decode cL_call 107 = .ok (.iload_n 3, 1) := by decide +kernel
theorem dL_call_108 : decode cL_call 108 = .ok (.invokestatic 102, 3) := by decide +kernel
theorem dL_call_111 : decode cL_call 111 = .ok (.ireturn, 1) := by decide +kernel
theorem dL_call_112 : decode cL_call 112 = .ok (.aload_n 0, 1) := by decide +kernel
theorem dL_call_113 : decode cL_call 113 = .ok (.iload_n 2, 1) := by decide +kernel
theorem dL_call_114 : decode cL_call 114 = .ok (.iload_n 3, 1) := by decide +kernel
theorem dL_call_115 : decode cL_call 115 = .ok (.invokestatic 106, 3) := by decide +kernel
theorem dL_call_118 : decode cL_call 118 = .ok (.ireturn, 1) := by decide +kernel
theorem dL_call_119 : decode cL_call 119 = .ok (.aload_n 0, 1) := by decide +kernel
theorem dL_call_120 : decode cL_call 120 = .ok (.iload_n 2, 1) := by decide +kernel
theorem dL_call_121 : decode cL_call 121 = .ok (.invokestatic 109, 3) := by decide +kernel
theorem dL_call_124 : decode cL_call 124 = .ok (.ireturn, 1) := by decide +kernel
theorem dL_call_125 : decode cL_call 125 = .ok (.aload_n 0, 1) := by decide +kernel
theorem dL_call_126 : decode cL_call 126 = .ok (.iload_n 2, 1) := by decide +kernel
theorem dL_call_127 : decode cL_call 127 = .ok (.invokestatic 112, 3) := by decide +kernel
theorem dL_call_130 : decode cL_call 130 = .ok (.ireturn, 1) := by decide +kernel
theorem dL_call_131 : decode cL_call 131 = .ok (.aload_n 0, 1) := by decide +kernel
theorem dL_call_132 : decode cL_call 132 = .ok (.iload_n 2, 1) := by decide +kernel
theorem dL_call_133 : decode cL_call 133 = .ok (.iload_n 3, 1) := by decide +kernel
theorem dL_call_134 : decode cL_call 134 = .ok (.invokestatic 115, 3) := by decide +kernel
theorem dL_call_137 : decode cL_call 137 = .ok (.ireturn, 1) := by decide +kernel
theorem dL_call_138 : decode cL_call 138 = .ok (.aload_n 0, 1) := by decide +kernel
theorem dL_call_139 : decode cL_call 139 = .ok (.iload_n 2, 1) := by decide +kernel
theorem dL_call_140 : decode cL_call 140 = .ok (.invokestatic 118, 3) := by decide +kernel
theorem dL_call_143 : decode cL_call 143 = .ok (.ireturn, 1) := by decide +kernel
theorem dL_call_144 : decode cL_call 144 = .ok (.aload_n 0, 1) := by decide +kernel
theorem dL_call_145 : decode cL_call 145 = .ok (.iload_n 2, 1) := by decide +kernel
theorem dL_call_146 : decode cL_call 146 = .ok (.iload_n 3, 1) := by decide +kernel
theorem dL_call_147 : decode cL_call 147 = .ok (.invokestatic 121, 3) := by decide +kernel
theorem dL_call_150 : decode cL_call 150 = .ok (.ireturn, 1) := by decide +kernel
theorem dL_call_151 : decode cL_call 151 = .ok (.aload_n 0, 1) := by decide +kernel
theorem dL_call_152 : decode cL_call 152 = .ok (.iload_n 2, 1) := by decide +kernel
theorem dL_call_153 : decode cL_call 153 = .ok (.invokestatic 124, 3) := by decide +kernel
theorem dL_call_156 : decode cL_call 156 = .ok (.ireturn, 1) := by decide +kernel
theorem dL_call_157 : decode cL_call 157 = .ok (.aload_n 0, 1) := by decide +kernel
theorem dL_call_158 : decode cL_call 158 = .ok (.iload_n 2, 1) := by decide +kernel
theorem dL_call_159 : decode cL_call 159 = .ok (.invokestatic 127, 3) := by decide +kernel
theorem dL_call_162 : decode cL_call 162 = .ok (.ireturn, 1) := by decide +kernel
theorem dL_call_163 : decode cL_call 163 = .ok (.aload_n 0, 1) := by decide +kernel
theorem dL_call_164 : decode cL_call 164 = .ok (.iload_n 2, 1) := by decide +kernel
theorem dL_call_165 : decode cL_call 165 = .ok (.iload_n 3, 1) := by decide +kernel
theorem dL_call_166 : decode cL_call 166 = .ok (.invokestatic 130, 3) := by decide +kernel
theorem dL_call_169 : decode cL_call 169 = .ok (.ireturn, 1) := by decide +kernel
theorem dL_call_170 : decode cL_call 170 = .ok (.aload_n 0, 1) := by decide +kernel
theorem dL_call_171 : decode cL_call 171 = .ok (.invokestatic 133, 3) := by decide +kernel
theorem dL_call_174 : decode cL_call 174 = .ok (.ireturn, 1) := by decide +kernel
theorem dL_call_175 : decode cL_call 175 = .ok (.aload_n 0, 1) := by decide +kernel
theorem dL_call_176 : decode cL_call 176 = .ok (.iload_n 2, 1) := by decide +kernel
theorem dL_call_177 : decode cL_call 177 = .ok (.invokestatic 136, 3) := by decide +kernel
theorem dL_call_180 : decode cL_call 180 = .ok (.ireturn, 1) := by decide +kernel
theorem dL_call_181 : decode cL_call 181 = .ok (.aload_n 0, 1) := by decide +kernel
theorem dL_call_182 : decode cL_call 182 = .ok (.iload_n 2, 1) := by decide +kernel
theorem dL_call_183 : decode cL_call 183 = .ok (.invokestatic 139, 3) := by decide +kernel
theorem dL_call_186 : decode cL_call 186 = .ok (.ireturn, 1) := by decide +kernel
theorem dL_call_187 : decode cL_call 187 = .ok (.aload_n 0, 1) := by decide +kernel
theorem dL_call_188 : decode cL_call 188 = .ok (.iload_n 2, 1) := by decide +kernel
theorem dL_call_189 : decode cL_call 189 = .ok (.iload_n 3, 1) := by decide +kernel
theorem dL_call_190 : decode cL_call 190 = .ok (.invokestatic 142, 3) := by decide +kernel
theorem dL_call_193 : decode cL_call 193 = .ok (.ireturn, 1) := by decide +kernel
theorem dL_call_194 : decode cL_call 194 = .ok (.aload_n 0, 1) := by decide +kernel
theorem dL_call_195 : decode cL_call 195 = .ok (.iload_n 2, 1) := by decide +kernel
theorem dL_call_196 : decode cL_call 196 = .ok (.invokestatic 145, 3) := by decide +kernel
theorem dL_call_199 : decode cL_call 199 = .ok (.ireturn, 1) := by decide +kernel
theorem dL_call_200 : decode cL_call 200 = .ok (.aload_n 0, 1) := by decide +kernel
theorem dL_call_201 : decode cL_call 201 = .ok (.iload_n 2, 1) := by decide +kernel
theorem dL_call_202 : decode cL_call 202 = .ok (.invokestatic 148, 3) := by decide +kernel
theorem dL_call_205 : decode cL_call 205 = .ok (.ireturn, 1) := by decide +kernel
