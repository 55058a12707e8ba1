set_option maxRecDepth 20000 in
theorem ggL_tryAppend_X9_append : GoodIn wsL_tryAppend wsX9_append := goodIn_ca (goodIn_ca (goodIn_r _ [9, 10, 11, 12, 13, 14, 15, 8, 16, 17, 18, 19, 20, 21, 22, 23, 24, 25, 26, 27, 28, 29, 30, 31, 32, 33, 34, 35, 36, 37] rfl (by decide +kernel)) (goodIn_sub (fun _ h => List.mem_cons_of_mem _ (List.mem_append_left _ (List.mem_append_right _ h))) (by decide +kernel))) (goodIn_sub (fun _ h => List.mem_cons_of_mem _ (List.mem_append_right _ h)) (by decide +kernel))
set_option maxRecDepth 20000 in
theorem gL_tryAppend_X9_append : GoodIn wsL_tryAppend (wsV RL 7 RX9 yX9_append wsX9_append) := goodIn_app (goodIn_of _ (by decide +kernel)) ggL_tryAppend_X9_append
theorem dL_tryAppend_0 : decode cL_tryAppend 0 = .ok (.aload_n 0, 1) := by decide +kernel
theorem dL_tryAppend_1 : decode cL_tryAppend 1 = .ok (.iload_n 1, 1) := by decide +kernel
theorem dL_tryAppend_2 : decode cL_tryAppend 2 = .ok (.invokevirtual 7, 3) := by decide +kernel
theorem dL_tryAppend_5 : decode cL_tryAppend 5 = .ok (.ireturn, 1) := by decide +kernel
theorem dL_tryAppend_6 : decode cL_tryAppend 6 = .ok (.astore_n 2, 1) := by decide +kernel
theorem dL_tryAppend_7 : decode cL_tryAppend 7 = .ok (.ldc 15, 2) := by decide +kernel
theorem dL_tryAppend_9 : decode cL_tryAppend 9 = .ok (.ireturn, 1) := by decide +kernel
theorem dL_tryAppend_10 : decode cL_tryAppend 10 = .ok (.astore_n 2, 1) := by decide +kernel
theorem dL_tryAppend_11 : decode cL_tryAppend 11 = .ok (.ldc 18, 2) := by decide +kernel
theorem dL_tryAppend_13 : decode cL_tryAppend 13 = .ok (.ireturn, 1) := by decide +kernel
set_option maxRecDepth 20000 in
theorem ggL_tryLoad_X9_load : GoodIn wsL_tryLoad wsX9_load := goodIn_ca (goodIn_r _ [7, 8, 9, 10, 11, 12, 13, 14, 15, 16, 17, 18, 19, 20, 21, 22, 23, 24, 25, 26, 27, 28, 29, 30, 31, 32, 33, 34, 35, 36, 37, 38, 39, 40, 41, 42, 43, 44, 45, 46, 47, 48, 49, 50, 51, 52, 53, 54, 55, 56, 57, 58, 59, 60, 61, 62, 63, 64, 65, 66, 67, 68, 69, 70, 71, 72, 73, 74, 75, 76, 77, 78, 79, 80, 81, 82, 83, 84, 85, 86, 87, 88, 89, 90, 91, 92, 93, 94, 95, 96, 97, 98, 99, 100, 101, 102, 103, 104, 105, 106, 107, 108, 109, 110, 111, 112, 113, 114, 115, 116, 117, 118, 119, 120, 121, 122, 123, 124, 125, 126, 127, 128, 129, 130, 131, 132, 133, 134, 135, 136, 137, 138, 139, 140, 141, 142, 143, 144, 145, 146, 147, 148, 149, 150, 151, 152, 153, 154, 155, 156, 157, 158, 159, 160, 161, 162, 163, 164, 165, 166, 167, 168, 169, 170, 171, 172, 173, 174, 175, 176, 177, 178, 179, 180, 181, 182, 183, 184, 185, 186, 187, 188, 189, 190, 191, 192, 193, 194, 195, 196, 197, 198, 199, 200, 201, 202, 203, 204, 205, 206, 207, 208, 209, 210, 211, 212, 213, 214, 215, 216, 217, 218, 219, 220, 221, 222, 223] rfl (by decide +kernel)) (goodIn_sub (fun _ h => List.mem_cons_of_mem _ (List.mem_append_right _ h)) (by decide +kernel))
set_option maxRecDepth 20000 in
theorem gL_tryLoad_X9_load : GoodIn wsL_tryLoad (wsV RL 19 RX9 yX9_load wsX9_load) := goodIn_app (goodIn_of _ (by decide +kernel)) ggL_tryLoad_X9_load
theorem dL_tryLoad_0 : decode cL_tryLoad 0 = .ok (.aload_n 0, 1) := by decide +kernel
theorem dL_tryLoad_1 : decode cL_tryLoad 1 = .ok (.invokevirtual 19, 3) := by decide +kernel
theorem dL_tryLoad_4 : decode cL_tryLoad 4 = .ok (.ireturn, 1) := by decide +kernel
theorem dL_tryLoad_5 : decode cL_tryLoad 5 = .ok (.astore_n 1, 1) := by decide +kernel
theorem dL_tryLoad_6 : decode cL_tryLoad 6 = .ok (.ldc 18, 2) := by decide +kernel
theorem dL_tryLoad_8 : decode cL_tryLoad 8 = .ok (.ireturn, 1) := by decide +kernel
set_option maxRecDepth 20000 in
theorem ggL_tryAbout_X9_about : GoodIn wsL_tryAbout wsX9_about := goodIn_ca (goodIn_r _ [7, 8, 9, 10, 6, 11, 12, 13, 14, 15, 16, 17, 18, 19, 20, 21, 22, 23, 24, 25, 26, 27, 28, 29, 30, 31, 32, 33, 34, 35, 36, 37, 38, 39, 40, 41, 42, 43, 44, 45, 46, 47, 48, 49, 50, 51, 52, 53, 54, 55, 56, 57, 58, 59, 60, 61, 62, 63, 64, 65, 66, 67, 68, 69, 70, 71, 72, 73, 74, 75, 76, 77, 78, 79, 80, 81, 82, 83, 84, 85, 86, 87, 88, 89, 90, 91, 92] rfl (by decide +kernel)) (goodIn_sub (fun _ h => List.mem_cons_of_mem _ (List.mem_append_right _ h)) (by decide +kernel))
set_option maxRecDepth 20000 in
theorem gL_tryAbout_X9_about : GoodIn wsL_tryAbout (wsV RL 23 RX9 yX9_about wsX9_about) := goodIn_app (goodIn_of _ (by decide +kernel)) ggL_tryAbout_X9_about
theorem dL_tryAbout_0 : decode cL_tryAbout 0 = .ok (.aload_n 0, 1) := by decide +kernel
theorem dL_tryAbout_1 : decode cL_tryAbout 1 = .ok (.iload_n 1, 1) := by decide +kernel
theorem dL_tryAbout_2 : decode cL_tryAbout 2 = .ok (.invokevirtual 23, 3) := by decide +kernel
theorem dL_tryAbout_5 : decode cL_tryAbout 5 = .ok (.ireturn, 1) := by decide +kernel
theorem dL_tryAbout_6 : decode cL_tryAbout 6 = .ok (.astore_n 2, 1) := by decide +kernel
theorem dL_tryAbout_7 : decode cL_tryAbout 7 = .ok (.ldc 15, 2) := by decide +kernel
theorem dL_tryAbout_9 : decode cL_tryAbout 9 = .ok (.ireturn, 1) := by decide +kernel
set_option maxRecDepth 20000 in
theorem ggL_tryRegister_X9_register : GoodIn wsL_tryRegister wsX9_register := goodIn_ca (goodIn_r _ [7, 8, 9, 10, 11, 6, 12, 13, 14, 15, 16, 17, 18, 19, 20, 21, 22, 23, 24, 25] rfl (by decide +kernel)) (goodIn_sub (fun _ h => List.mem_cons_of_mem _ (List.mem_append_right _ h)) (by decide +kernel))
set_option maxRecDepth 20000 in
theorem gL_tryRegister_X9_register : GoodIn wsL_tryRegister (wsV RL 26 RX9 yX9_register wsX9_register) := goodIn_app (goodIn_of _ (by decide +kernel)) ggL_tryRegister_X9_register
theorem dL_tryRegister_0 : decode cL_tryRegister 0 = .ok (.aload_n 0, 1) := by decide +kernel
theorem dL_tryRegister_1 : decode cL_tryRegister 1 = .ok (.iload_n 1, 1) := by decide +kernel
theorem dL_tryRegister_2 : decode cL_tryRegister 2 = .ok (.invokevirtual 26, 3) := by decide +kernel
theorem dL_tryRegister_5 : decode cL_tryRegister 5 = .ok (.ireturn, 1) := by decide +kernel
theorem dL_tryRegister_6 : decode cL_tryRegister 6 = .ok (.astore_n 2, 1) := by decide +kernel
theorem dL_tryRegister_7 : decode cL_tryRegister 7 = .ok (.ldc 31, 2) := by decide +kernel
theorem dL_tryRegister_9 : decode cL_tryRegister 9 = .ok (.ireturn, 1) := by decide +kernel
set_option maxRecDepth 20000 in
theorem ggL_tryIsGuarded_X9_isGuarded : GoodIn wsL_tryIsGuarded wsX9_isGuarded := goodIn_ca (goodIn_r _ [7, 8, 9, 10, 11, 12, 6, 13, 14, 15, 16, 17, 18, 19, 20, 21, 22, 23, 24, 25, 26, 27, 28, 29, 30, 31, 32] rfl (by decide +kernel)) (goodIn_sub (fun _ h => List.mem_cons_of_mem _ (List.mem_append_right _ h)) (by decide +kernel))
set_option maxRecDepth 20000 in
theorem gL_tryIsGuarded_X9_isGuarded : GoodIn wsL_tryIsGuarded (wsV RL 32 RX9 yX9_isGuarded wsX9_isGuarded) := goodIn_app (goodIn_of _ (by decide +kernel)) ggL_tryIsGuarded_X9_isGuarded
theorem dL_tryIsGuarded_0 : decode cL_tryIsGuarded 0 = .ok (.aload_n 0, 1) := by decide +kernel
theorem dL_tryIsGuarded_1 : decode cL_tryIsGuarded 1 = .ok (.iload_n 1, 1) := by decide +kernel
theorem dL_tryIsGuarded_2 : decode cL_tryIsGuarded 2 = .ok (.invokevirtual 32, 3) := by decide +kernel
theorem dL_tryIsGuarded_5 : decode cL_tryIsGuarded 5 = .ok (.ifCond .eq 7, 3) := by decide +kernel
theorem dL_tryIsGuarded_8 : decode cL_tryIsGuarded 8 = .ok (.iconst 1, 1) := by decide +kernel
theorem dL_tryIsGuarded_9 : decode cL_tryIsGuarded 9 = .ok (.goto 4, 3) := by decide +kernel
theorem dL_tryIsGuarded_12 : decode cL_tryIsGuarded 12 = .ok (.iconst 0, 1) := by decide +kernel
theorem dL_tryIsGuarded_13 : decode cL_tryIsGuarded 13 = .ok (.ireturn, 1) := by decide +kernel
theorem dL_tryIsGuarded_14 : decode cL_tryIsGuarded 14 = .ok (.astore_n 2, 1) := by decide +kernel
theorem dL_tryIsGuarded_15 : decode cL_tryIsGuarded 15 = .ok (.ldc 31, 2) := by decide +kernel
theorem dL_tryIsGuarded_17 : decode cL_tryIsGuarded 17 = .ok (.ireturn, 1) := by decide +kernel
set_option maxRecDepth 20000 in
theorem ggL_tryRow_X9_row : GoodIn wsL_tryRow wsX9_row := goodIn_ca (goodIn_ca (goodIn_r _ [9, 10, 11, 12, 13, 14, 8, 15, 16, 17, 18, 19, 20, 21, 22, 23, 24, 25, 26, 27, 28, 29, 30, 31, 32, 33, 34, 35, 36, 37, 38, 39, 40, 41, 42, 43, 44, 45, 46, 47] rfl (by decide +kernel)) (goodIn_sub (fun _ h => List.mem_cons_of_mem _ (List.mem_append_left _ (List.mem_append_right _ h))) (by decide +kernel))) (goodIn_sub (fun _ h => List.mem_cons_of_mem _ (List.mem_append_right _ h)) (by decide +kernel))
set_option maxRecDepth 20000 in
theorem gL_tryRow_X9_row : GoodIn wsL_tryRow (wsV RL 36 RX9 yX9_row wsX9_row) := goodIn_app (goodIn_of _ (by decide +kernel)) ggL_tryRow_X9_row
theorem dL_tryRow_0 : decode cL_tryRow 0 = .ok (.aload_n 0, 1) := by decide +kernel
theorem dL_tryRow_1 : decode cL_tryRow 1 = .ok (.iload_n 1, 1) := by decide +kernel
theorem dL_tryRow_2 : decode cL_tryRow 2 = .ok (.iload_n 2, 1) := by decide +kernel
theorem dL_tryRow_3 : decode cL_tryRow 3 = .ok (.invokevirtual 36, 3) := by decide +kernel
theorem dL_tryRow_6 : decode cL_tryRow 6 = .ok (.ireturn, 1) := by decide +kernel
theorem dL_tryRow_7 : decode cL_tryRow 7 = .ok (.astore_n 3, 1) := by decide +kernel
theorem dL_tryRow_8 : decode cL_tryRow 8 = .ok (.ldc 31, 2) := by decide +kernel
theorem dL_tryRow_10 : decode cL_tryRow 10 = .ok (.ireturn, 1) := by decide +kernel
theorem dL_tryRow_11 : decode cL_tryRow 11 = .ok (.astore_n 3, 1) := by decide +kernel
theorem dL_tryRow_12 : decode cL_tryRow 12 = .ok (.ldc 15, 2) := by decide +kernel
theorem dL_tryRow_14 : decode cL_tryRow 14 = .ok (.ireturn, 1) := by decide +kernel
set_option maxRecDepth 20000 in
theorem ggL_tryAlarm_X9_alarm : GoodIn wsL_tryAlarm wsX9_alarm := goodIn_ca (goodIn_ca (goodIn_r _ [9, 10, 11, 12, 13, 8, 14, 15, 16, 17, 18, 19, 20, 21, 22, 23, 24, 25, 26, 27, 28, 29, 30, 31, 32, 33, 34, 35, 36, 37, 38, 39, 40, 41, 42, 43] rfl (by decide +kernel)) (goodIn_sub (fun _ h => List.mem_cons_of_mem _ (List.mem_append_left _ (List.mem_append_right _ h))) (by decide +kernel))) (goodIn_sub (fun _ h => List.mem_cons_of_mem _ (List.mem_append_right _ h)) (by decide +kernel))
set_option maxRecDepth 20000 in
theorem gL_tryAlarm_X9_alarm : GoodIn wsL_tryAlarm (wsV RL 40 RX9 yX9_alarm wsX9_alarm) := goodIn_app (goodIn_of _ (by decide +kernel)) ggL_tryAlarm_X9_alarm
theorem dL_tryAlarm_0 : decode cL_tryAlarm 0 = .ok (.aload_n 0, 1) := by decide +kernel
theorem dL_tryAlarm_1 : decode cL_tryAlarm 1 = .ok (.iload_n 1, 1) := by decide +kernel
theorem dL_tryAlarm_2 : decode cL_tryAlarm 2 = .ok (.iload_n 2, 1) := by decide +kernel
theorem dL_tryAlarm_3 : decode cL_tryAlarm 3 = .ok (.invokevirtual 40, 3) := by decide +kernel
theorem dL_tryAlarm_6 : decode cL_tryAlarm 6 = .ok (.ireturn, 1) := by decide +kernel
theorem dL_tryAlarm_7 : decode cL_tryAlarm 7 = .ok (.astore_n 3, 1) := by decide +kernel
theorem dL_tryAlarm_8 : decode cL_tryAlarm 8 = .ok (.ldc 31, 2) := by decide +kernel
theorem dL_tryAlarm_10 : decode cL_tryAlarm 10 = .ok (.ireturn, 1) := by decide +kernel
theorem dL_tryAlarm_11 : decode cL_tryAlarm 11 = .ok (.astore_n 3, 1) := by decide +kernel
theorem dL_tryAlarm_12 : decode cL_tryAlarm 12 = .ok (.ldc 15, 2) := by decide +kernel
theorem dL_tryAlarm_14 : decode cL_tryAlarm 14 = .ok (.ireturn, 1) := by decide +kernel
set_option maxRecDepth 20000 in
theorem ggL_tryPass_X9_pass : GoodIn wsL_tryPass wsX9_pass := goodIn_ca (goodIn_r _ [7, 8, 9, 10, 11, 12, 13, 6, 14, 15, 16, 17, 18, 19, 20, 21, 22, 23, 24, 25, 26, 27, 28, 29, 30, 31, 32, 33, 34, 35, 36, 37, 38, 39, 40, 41, 42, 43, 44, 45, 46, 47, 48, 49, 50, 51, 52, 53, 54, 55, 56, 57, 58, 59, 60, 61, 62, 63, 64, 65, 66, 67, 68, 69, 70, 71, 72, 73, 74, 75, 76, 77, 78, 79, 80, 81, 82, 83, 84, 85, 86, 87, 88, 89, 90, 91, 92, 93, 94, 95, 96, 97, 98, 99, 100, 101, 102, 103, 104, 105, 106, 107, 108, 109, 110, 111, 112, 113, 114, 115, 116, 117, 118, 119, 120, 121, 122, 123, 124, 125, 126, 127, 128, 129, 130, 131, 132, 133, 134, 135, 136, 137, 138, 139, 140, 141, 142, 143, 144, 145, 146, 147, 148, 149, 150, 151, 152, 153, 154, 155, 156, 157, 158, 159, 160, 161, 162, 163, 164, 165, 166, 167, 168, 169, 170, 171, 172, 173, 174, 175, 176, 177, 178, 179, 180, 181, 182] rfl (by decide +kernel)) (goodIn_sub (fun _ h => List.mem_cons_of_mem _ (List.mem_append_right _ h)) (by decide +kernel))
set_option maxRecDepth 20000 in
theorem gL_tryPass_X9_pass : GoodIn wsL_tryPass (wsV RL 43 RX9 yX9_pass wsX9_pass) := goodIn_app (goodIn_of _ (by decide +kernel)) ggL_tryPass_X9_pass
theorem dL_tryPass_0 : decode cL_tryPass 0 = .ok (.aload_n 0, 1) := by decide +kernel
theorem dL_tryPass_1 : decode cL_tryPass 1 = .ok (.iload_n 1, 1) := by decide +kernel
theorem dL_tryPass_2 : decode cL_tryPass 2 = .ok (.invokevirtual 43, 3) := by decide +kernel
theorem dL_tryPass_5 : decode cL_tryPass 5 = .ok (.ireturn, 1) := by decide +kernel
theorem dL_tryPass_6 : decode cL_tryPass 6 = .ok (.astore_n 2, 1) := by decide +kernel
theorem dL_tryPass_7 : decode cL_tryPass 7 = .ok (.ldc 15, 2) := by decide +kernel
theorem dL_tryPass_9 : decode cL_tryPass 9 = .ok (.ireturn, 1) := by decide +kernel
set_option maxRecDepth 20000 in
theorem ggL_tryLevel_X9_level : GoodIn wsL_tryLevel wsX9_level := goodIn_ca (goodIn_r _ [7, 8, 9, 10, 11, 12, 6, 13, 14, 15, 16, 17, 18, 19, 20, 21, 22, 23, 24, 25, 26, 27, 28, 29, 30, 31, 32, 33, 34, 35, 36, 37, 38, 39, 40, 41, 42, 43, 44, 45, 46, 47, 48, 49, 50, 51, 52, 53, 54, 55, 56, 57, 58, 59, 60, 61, 62, 63, 64, 65, 66, 67, 68, 69, 70, 71, 72, 73, 74, 75, 76, 77, 78, 79, 80, 81, 82, 83, 84, 85, 86, 87, 88, 89, 90, 91, 92, 93, 94, 95, 96, 97, 98, 99, 100, 101, 102, 103, 104, 105, 106, 107, 108, 109, 110, 111, 112, 113, 114, 115, 116, 117, 118, 119, 120, 121, 122, 123, 124, 125, 126, 127, 128, 129, 130, 131, 132, 133, 134, 135, 136, 137, 138, 139, 140, 141, 142, 143, 144, 145, 146, 147, 148, 149, 150, 151, 152, 153] rfl (by decide +kernel)) (goodIn_sub (fun _ h => List.mem_cons_of_mem _ (List.mem_append_right _ h)) (by decide +kernel))
set_option maxRecDepth 20000 in
theorem gL_tryLevel_X9_level : GoodIn wsL_tryLevel (wsV RL 46 RX9 yX9_level wsX9_level) := goodIn_app (goodIn_of _ (by decide +kernel)) ggL_tryLevel_X9_level
theorem dL_tryLevel_0 : decode cL_tryLevel 0 = .ok (.aload_n 0, 1) := by decide +kernel
theorem dL_tryLevel_1 : decode cL_tryLevel 1 = .ok (.iload_n 1, 1) := by decide +kernel
theorem dL_tryLevel_2 : decode cL_tryLevel 2 = .ok (.invokevirtual 46, 3) := by decide +kernel
theorem dL_tryLevel_5 : decode cL_tryLevel 5 = .ok (.ireturn, 1) := by decide +kernel
theorem dL_tryLevel_6 : decode cL_tryLevel 6 = .ok (.astore_n 2, 1) := by decide +kernel
theorem dL_tryLevel_7 : decode cL_tryLevel 7 = .ok (.ldc 15, 2) := by decide +kernel
theorem dL_tryLevel_9 : decode cL_tryLevel 9 = .ok (.ireturn, 1) := by decide +kernel
set_option maxRecDepth 20000 in
theorem ggL_trySetTime_X9_setTime : GoodIn wsL_trySetTime wsX9_setTime := goodIn_ca (goodIn_ca (goodIn_r _ [9, 10, 11, 12, 13, 14, 15, 16, 8, 17, 18, 19, 20, 21, 22, 23, 24, 25, 26, 27, 28, 29, 30, 31, 32, 33, 34, 35, 36, 37, 38, 39, 40, 41, 42, 43, 44, 45, 46, 47, 48, 49, 50, 51, 52, 53, 54, 55, 56, 57, 58, 59, 60, 61, 62, 63, 64, 65, 66, 67, 68, 69, 70, 71, 72, 73, 74, 75, 76, 77, 78, 79, 80, 81, 82, 83, 84, 85, 86, 87, 88, 89, 90, 91, 92, 93, 94, 95, 96, 97, 98, 99, 100, 101, 102, 103, 104, 105, 106, 107, 108, 109, 110, 111, 112, 113, 114, 115, 116, 117, 118, 119, 120, 121, 122, 123, 124, 125, 126, 127, 128, 129, 130, 131, 132, 133, 134, 135, 136, 137, 138] rfl (by decide +kernel)) (goodIn_sub (fun _ h => List.mem_cons_of_mem _ (List.mem_append_left _ (List.mem_append_right _ h))) (by decide +kernel))) (goodIn_sub (fun _ h => List.mem_cons_of_mem _ (List.mem_append_right _ h)) (by decide +kernel))
set_option maxRecDepth 20000 in
theorem gL_trySetTime_X9_setTime : GoodIn wsL_trySetTime (wsV RL 49 RX9 yX9_setTime wsX9_setTime) := goodIn_app (goodIn_of _ (by decide +kernel)) ggL_trySetTime_X9_setTime
theorem dL_trySetTime_0 : decode cL_trySetTime 0 = .ok (.aload_n 0, 1) := by decide +kernel
theorem dL_trySetTime_1 : decode cL_trySetTime 1 = .ok (.iload_n 1, 1) := by decide +kernel
theorem dL_trySetTime_2 : decode cL_trySetTime 2 = .ok (.invokevirtual 49, 3) := by decide +kernel
theorem dL_trySetTime_5 : decode cL_trySetTime 5 = .ok (.ireturn, 1) := by decide +kernel
theorem dL_trySetTime_6 : decode cL_trySetTime 6 = .ok (.astore_n 2, 1) := by decide +kernel
theorem dL_trySetTime_7 : decode cL_trySetTime 7 = .ok (.ldc 15, 2) := by decide +kernel
theorem dL_trySetTime_9 : decode cL_trySetTime 9 = .ok (.ireturn, 1) := by decide +kernel
theorem dL_trySetTime_10 : decode cL_trySetTime 10 = .ok (.astore_n 2, 1) := by decide +kernel
theorem dL_trySetTime_11 : decode cL_trySetTime 11 = .ok (.ldc 18, 2) := by decide +kernel
theorem dL_trySetTime_13 : decode cL_trySetTime 13 = .ok (.ireturn, 1) := by decide +kernel
set_option maxRecDepth 20000 in
theorem ggL_tryCorrect_X9_correct : GoodIn wsL_tryCorrect wsX9_correct := goodIn_ca (goodIn_ca (goodIn_r _ [9, 10, 11, 12, 13, 14, 15, 8, 16, 17, 18, 19, 20, 21, 22, 23, 24, 25, 26, 27, 28, 29, 30, 31, 32, 33, 34, 35, 36, 37, 38, 39, 40, 41, 42, 43, 44, 45, 46, 47, 48, 49, 50, 51, 52, 53, 54, 55, 56, 57, 58, 59, 60, 61, 62, 63, 64, 65, 66, 67, 68, 69, 70, 71, 72, 73, 74, 75, 76, 77, 78, 79, 80, 81, 82, 83, 84, 85, 86, 87, 88, 89, 90, 91, 92, 93, 94, 95, 96, 97, 98, 99, 100, 101, 102, 103, 104, 105, 106, 107, 108, 109, 110, 111, 112, 113, 114, 115, 116, 117, 118, 119, 120, 121, 122, 123, 124, 125, 126, 127, 128, 129, 130, 131, 132, 133] rfl (by decide +kernel)) (goodIn_sub (fun _ h => List.mem_cons_of_mem _ (List.mem_append_left _ (List.mem_append_right _ h))) (by decide +kernel))) (goodIn_sub (fun _ h => List.mem_cons_of_mem _ (List.mem_append_right _ h)) (by decide +kernel))
set_option maxRecDepth 20000 in
theorem gL_tryCorrect_X9_correct : GoodIn wsL_tryCorrect (wsV RL 52 RX9 yX9_correct wsX9_correct) := goodIn_app (goodIn_of _ (by decide +kernel)) ggL_tryCorrect_X9_correct
theorem dL_tryCorrect_0 : decode cL_tryCorrect 0 = .ok (.aload_n 0, 1) := by decide +kernel
theorem dL_tryCorrect_1 : decode cL_tryCorrect 1 = .ok (.iload_n 1, 1) := by decide +kernel
theorem dL_tryCorrect_2 : decode cL_tryCorrect 2 = .ok (.invokevirtual 52, 3) := by decide +kernel
theorem dL_tryCorrect_5 : decode cL_tryCorrect 5 = .ok (.ireturn, 1) := by decide +kernel
theorem dL_tryCorrect_6 : decode cL_tryCorrect 6 = .ok (.astore_n 2, 1) := by decide +kernel
theorem dL_tryCorrect_7 : decode cL_tryCorrect 7 = .ok (.ldc 15, 2) := by decide +kernel
theorem dL_tryCorrect_9 : decode cL_tryCorrect 9 = .ok (.ireturn, 1) := by decide +kernel
theorem dL_tryCorrect_10 : decode cL_tryCorrect 10 = .ok (.astore_n 2, 1) := by decide +kernel
theorem dL_tryCorrect_11 : decode cL_tryCorrect 11 = .ok (.ldc 18, 2) := by decide +kernel
theorem dL_tryCorrect_13 : decode cL_tryCorrect 13 = .ok (.ireturn, 1) := by decide +kernel
set_option maxRecDepth 20000 in
theorem ggL_tryAge_X9_age : GoodIn wsL_tryAge wsX9_age := goodIn_ca (goodIn_r _ [7, 8, 9, 10, 11, 12, 13, 6, 14, 15, 16, 17, 18, 19, 20, 21, 22, 23, 24, 25, 26, 27, 28, 29, 30, 31, 32, 33, 34, 35, 36, 37, 38, 39, 40, 41, 42, 43, 44, 45, 46, 47, 48, 49, 50, 51, 52, 53, 54, 55, 56, 57, 58, 59, 60, 61, 62, 63, 64, 65, 66, 67, 68, 69, 70, 71, 72, 73, 74, 75, 76, 77, 78, 79, 80, 81, 82, 83, 84, 85, 86, 87, 88, 89, 90, 91, 92, 93, 94, 95, 96, 97, 98, 99, 100, 101, 102, 103, 104, 105, 106, 107, 108, 109, 110, 111, 112, 113, 114, 115, 116, 117] rfl (by decide +kernel)) (goodIn_sub (fun _ h => List.mem_cons_of_mem _ (List.mem_append_right _ h)) (by decide +kernel))
set_option maxRecDepth 20000 in
theorem gL_tryAge_X9_age : GoodIn wsL_tryAge (wsV RL 55 RX9 yX9_age wsX9_age) := goodIn_app (goodIn_of _ (by decide +kernel)) ggL_tryAge_X9_age
theorem dL_tryAge_0 : decode cL_tryAge 0 = .ok (.aload_n 0, 1) := by decide +kernel
theorem dL_tryAge_1 : decode cL_tryAge 1 = .ok (.iload_n 1, 1) := by decide +kernel
theorem dL_tryAge_2 : decode cL_tryAge 2 = .ok (.invokevirtual 55, 3) := by decide +kernel
theorem dL_tryAge_5 : decode cL_tryAge 5 = .ok (.ireturn, 1) := by decide +kernel
theorem dL_tryAge_6 : decode cL_tryAge 6 = .ok (.astore_n 2, 1) := by decide +kernel
theorem dL_tryAge_7 : decode cL_tryAge 7 = .ok (.ldc 15, 2) := by decide +kernel
theorem dL_tryAge_9 : decode cL_tryAge 9 = .ok (.ireturn, 1) := by decide +kernel
set_option maxRecDepth 20000 in
theorem ggL_tryWrite_X9_write : GoodIn wsL_tryWrite wsX9_write := goodIn_ca (goodIn_ca (goodIn_ca (goodIn_r _ [11, 12, 13, 14, 15, 16, 10, 17, 18, 19, 20, 21, 22, 23, 24, 25, 26, 27, 28, 29, 30, 31, 32, 33, 34, 35, 36, 37, 38, 39, 40, 41, 42, 43, 44, 45, 46, 47, 48, 49, 50, 51, 52, 53, 54, 55, 56, 57, 58, 59, 60, 61, 62, 63, 64, 65, 66, 67, 68, 69, 70, 71, 72, 73, 74, 75, 76, 77, 78, 79, 80, 81, 82, 83, 84, 85, 86, 87, 88, 89, 90, 91, 92, 93, 94, 95, 96, 97, 98, 99, 100, 101, 102, 103, 104, 105, 106, 107, 108, 109, 110, 111, 112, 113, 114, 115, 116, 117, 118, 119, 120, 121, 122, 123, 124, 125, 126, 127, 128, 129, 130, 131, 132, 133, 134, 135, 136, 137, 138, 139] rfl (by decide +kernel)) (goodIn_sub (fun _ h => List.mem_cons_of_mem _ (List.mem_append_left _ (List.mem_append_left _ (List.mem_append_right _ h)))) (by decide +kernel))) (goodIn_sub (fun _ h => List.mem_cons_of_mem _ (List.mem_append_left _ (List.mem_append_right _ h))) (by decide +kernel))) (goodIn_sub (fun _ h => List.mem_cons_of_mem _ (List.mem_append_right _ h)) (by decide +kernel))
set_option maxRecDepth 20000 in
theorem gL_tryWrite_X9_write : GoodIn wsL_tryWrite (wsV RL 58 RX9 yX9_write wsX9_write) := goodIn_app (goodIn_of _ (by decide +kernel)) ggL_tryWrite_X9_write
theorem dL_tryWrite_0 : decode cL_tryWrite 0 = .ok (.aload_n 0, 1) := by decide +kernel
theorem dL_tryWrite_1 : decode cL_tryWrite 1 = .ok (.iload_n 1, 1) := by decide +kernel
theorem dL_tryWrite_2 : decode cL_tryWrite 2 = .ok (.iload_n 2, 1) := by decide +kernel
theorem dL_tryWrite_3 : decode cL_tryWrite 3 = .ok (.invokevirtual 58, 3) := by decide +kernel
theorem dL_tryWrite_6 : decode cL_tryWrite 6 = .ok (.ireturn, 1) := by decide +kernel
theorem dL_tryWrite_7 : decode cL_tryWrite 7 = .ok (.astore_n 3, 1) := by decide +kernel
theorem dL_tryWrite_8 : decode cL_tryWrite 8 = .ok (.ldc 31, 2) := by decide +kernel
theorem dL_tryWrite_10 : decode cL_tryWrite 10 = .ok (.ireturn, 1) := by decide +kernel
theorem dL_tryWrite_11 : decode cL_tryWrite 11 = .ok (.astore_n 3, 1) := by decide +kernel
theorem dL_tryWrite_12 : decode cL_tryWrite 12 = .ok (.ldc 15, 2) := by decide +kernel
theorem dL_tryWrite_14 : decode cL_tryWrite 14 = .ok (.ireturn, 1) := by decide +kernel
theorem dL_tryWrite_15 : decode cL_tryWrite 15 = .ok (.astore_n 3, 1) := by decide +kernel
theorem dL_tryWrite_16 : decode cL_tryWrite 16 = .ok (.ldc 18, 2) := by decide +kernel
theorem dL_tryWrite_18 : decode cL_tryWrite 18 = .ok (.ireturn, 1) := by decide +kernel
set_option maxRecDepth 20000 in
theorem ggL_tryGuard_X9_guard : GoodIn wsL_tryGuard wsX9_guard := goodIn_ca (goodIn_ca (goodIn_r _ [9, 10, 11, 12, 13, 14, 15, 8, 16, 17, 18, 19, 20, 21, 22, 23, 24, 25, 26, 27, 28, 29, 30, 31, 32, 33, 34, 35, 36, 37, 38, 39, 40, 41, 42, 43, 44, 45, 46, 47, 48, 49, 50, 51, 52, 53, 54, 55, 56, 57, 58, 59, 60, 61, 62, 63, 64, 65, 66, 67, 68, 69, 70, 71, 72, 73, 74, 75, 76, 77, 78, 79, 80, 81, 82, 83, 84, 85, 86, 87, 88, 89, 90, 91, 92, 93, 94, 95, 96, 97, 98, 99, 100, 101, 102, 103, 104, 105, 106, 107, 108, 109, 110, 111, 112, 113, 114, 115, 116, 117, 118, 119, 120, 121, 122, 123, 124, 125, 126, 127, 128, 129, 130, 131, 132, 133, 134, 135, 136, 137] rfl (by decide +kernel)) (goodIn_sub (fun _ h => List.mem_cons_of_mem _ (List.mem_append_left _ (List.mem_append_right _ h))) (by decide +kernel))) (goodIn_sub (fun _ h => List.mem_cons_of_mem _ (List.mem_append_right _ h)) (by decide +kernel))
set_option maxRecDepth 20000 in
theorem gL_tryGuard_X9_guard : GoodIn wsL_tryGuard (wsV RL 61 RX9 yX9_guard wsX9_guard) := goodIn_app (goodIn_of _ (by decide +kernel)) ggL_tryGuard_X9_guard
theorem dL_tryGuard_0 : decode cL_tryGuard 0 = .ok (.aload_n 0, 1) := by decide +kernel
theorem dL_tryGuard_1 : decode cL_tryGuard 1 = .ok (.iload_n 1, 1) := by decide +kernel
theorem dL_tryGuard_2 : decode cL_tryGuard 2 = .ok (.iload_n 2, 1) := by decide +kernel
theorem dL_tryGuard_3 : decode cL_tryGuard 3 = .ok (.iconst 1, 1) := by decide +kernel
theorem dL_tryGuard_4 : decode cL_tryGuard 4 = .ok (.if_icmp .ne 7, 3) := by decide +kernel
theorem dL_tryGuard_7 : decode cL_tryGuard 7 = .ok (.iconst 1, 1) := by decide +kernel
theorem dL_tryGuard_8 : decode cL_tryGuard 8 = .ok (.goto 4, 3) := by decide +kernel
theorem dL_tryGuard_11 : decode cL_tryGuard 11 = .ok (.iconst 0, 1) := by decide +kernel
theorem dL_tryGuard_12 : decode cL_tryGuard 12 = .ok (.invokevirtual 61, 3) := by decide +kernel
theorem dL_tryGuard_15 : decode cL_tryGuard 15 = .ok (.ireturn, 1) := by decide +kernel
theorem dL_tryGuard_16 : decode cL_tryGuard 16 = .ok (.astore_n 3, 1) := by decide +kernel
theorem dL_tryGuard_17 : decode cL_tryGuard 17 = .ok (.ldc 31, 2) := by decide +kernel
theorem dL_tryGuard_19 : decode cL_tryGuard 19 = .ok (.ireturn, 1) := by decide +kernel
theorem dL_tryGuard_20 : decode cL_tryGuard 20 = .ok (.astore_n 3, 1) := by decide +kernel
theorem dL_tryGuard_21 : decode cL_tryGuard 21 = .ok (.ldc 18, 2) := by decide +kernel
theorem dL_tryGuard_23 : decode cL_tryGuard 23 = .ok (.ireturn, 1) := by decide +kernel
set_option maxRecDepth 20000 in
theorem ggL_tryTamper_X9_tamper : GoodIn wsL_tryTamper wsX9_tamper := goodIn_ca (goodIn_r _ [7, 8, 9, 10, 11, 12, 13, 6, 14, 15, 16, 17, 18, 19, 20, 21, 22, 23, 24, 25, 26, 27, 28, 29, 30, 31, 32, 33, 34, 35, 36, 37, 38, 39, 40, 41, 42, 43, 44, 45, 46, 47, 48, 49, 50, 51, 52, 53, 54, 55, 56, 57, 58, 59, 60, 61, 62, 63, 64, 65, 66, 67, 68, 69, 70, 71, 72, 73, 74, 75, 76, 77, 78, 79, 80, 81, 82, 83, 84, 85, 86, 87, 88, 89, 90, 91, 92, 93, 94, 95, 96, 97, 98, 99, 100, 101, 102, 103, 104, 105, 106, 107, 108, 109, 110, 111, 112, 113, 114, 115, 116, 117, 118, 119, 120, 121, 122, 123, 124, 125, 126, 127, 128, 129, 130, 131, 132, 133, 134, 135] rfl (by decide +kernel)) (goodIn_sub (fun _ h => List.mem_cons_of_mem _ (List.mem_append_right _ h)) (by decide +kernel))
set_option maxRecDepth 20000 in
theorem gL_tryTamper_X9_tamper : GoodIn wsL_tryTamper (wsV RL 65 RX9 yX9_tamper wsX9_tamper) := goodIn_app (goodIn_of _ (by decide +kernel)) ggL_tryTamper_X9_tamper
theorem dL_tryTamper_0 : decode cL_tryTamper 0 = .ok (.aload_n 0, 1) := by decide +kernel
theorem dL_tryTamper_1 : decode cL_tryTamper 1 = .ok (.iload_n 1, 1) := by decide +kernel
theorem dL_tryTamper_2 : decode cL_tryTamper 2 = .ok (.invokevirtual 65, 3) := by decide +kernel
theorem dL_tryTamper_5 : decode cL_tryTamper 5 = .ok (.ireturn, 1) := by decide +kernel
theorem dL_tryTamper_6 : decode cL_tryTamper 6 = .ok (.astore_n 2, 1) := by decide +kernel
theorem dL_tryTamper_7 : decode cL_tryTamper 7 = .ok (.ldc 31, 2) := by decide +kernel
theorem dL_tryTamper_9 : decode cL_tryTamper 9 = .ok (.ireturn, 1) := by decide +kernel
set_option maxRecDepth 20000 in
theorem ggL_tryClearRows_X9_clearRows : GoodIn wsL_tryClearRows wsX9_clearRows := goodIn_ca (goodIn_r _ [7, 8, 9, 10, 11, 12, 13, 14, 6, 15, 16, 17, 18, 19, 20, 21, 22, 23, 24, 25, 26, 27, 28, 29, 30, 31, 32, 33, 34, 35, 36, 37, 38, 39, 40, 41, 42, 43, 44, 45, 46, 47, 48, 49, 50, 51, 52, 53, 54, 55, 56, 57, 58, 59, 60, 61, 62, 63, 64, 65, 66, 67, 68, 69, 70, 71, 72, 73, 74, 75, 76, 77, 78, 79, 80, 81, 82, 83, 84, 85, 86, 87, 88, 89, 90, 91, 92, 93, 94, 95, 96, 97, 98, 99, 100, 101, 102, 103, 104, 105, 106, 107, 108, 109, 110, 111, 112, 113, 114, 115, 116, 117, 118, 119, 120, 121, 122, 123, 124, 125, 126] rfl (by decide +kernel)) (goodIn_sub (fun _ h => List.mem_cons_of_mem _ (List.mem_append_right _ h)) (by decide +kernel))
set_option maxRecDepth 20000 in
theorem gL_tryClearRows_X9_clearRows : GoodIn wsL_tryClearRows (wsV RL 68 RX9 yX9_clearRows wsX9_clearRows) := goodIn_app (goodIn_of _ (by decide +kernel)) ggL_tryClearRows_X9_clearRows
theorem dL_tryClearRows_0 : decode cL_tryClearRows 0 = .ok (.aload_n 0, 1) := by decide +kernel
theorem dL_tryClearRows_1 : decode cL_tryClearRows 1 = .ok (.invokevirtual 68, 3) := by decide +kernel
theorem dL_tryClearRows_4 : decode cL_tryClearRows 4 = .ok (.ireturn, 1) := by decide +kernel
theorem dL_tryClearRows_5 : decode cL_tryClearRows 5 = .ok (.astore_n 1, 1) := by decide +kernel
theorem dL_tryClearRows_6 : decode cL_tryClearRows 6 = .ok (.ldc 18, 2) := by decide +kernel
theorem dL_tryClearRows_8 : decode cL_tryClearRows 8 = .ok (.ireturn, 1) := by decide +kernel
set_option maxRecDepth 20000 in
theorem ggL_trySetAlarm_X9_setAlarm : GoodIn wsL_trySetAlarm wsX9_setAlarm := goodIn_ca (goodIn_ca (goodIn_r _ [9, 10, 11, 12, 13, 14, 15, 16, 8, 17, 18, 19, 20, 21, 22, 23, 24, 25, 26, 27, 28, 29, 30, 31, 32, 33, 34, 35, 36, 37, 38, 39, 40, 41, 42, 43, 44, 45, 46, 47, 48, 49, 50, 51, 52, 53, 54, 55, 56, 57, 58, 59, 60, 61, 62, 63, 64, 65, 66, 67, 68, 69, 70, 71, 72, 73, 74, 75, 76, 77, 78, 79, 80, 81, 82, 83, 84, 85, 86, 87, 88, 89, 90, 91, 92, 93, 94, 95, 96, 97, 98, 99, 100, 101, 102, 103, 104, 105, 106, 107, 108, 109, 110, 111, 112, 113, 114, 115, 116, 117, 118, 119, 120, 121, 122, 123, 124, 125, 126, 127, 128, 129] rfl (by decide +kernel)) (goodIn_sub (fun _ h => List.mem_cons_of_mem _ (List.mem_append_left _ (List.mem_append_right _ h))) (by decide +kernel))) (goodIn_sub (fun _ h => List.mem_cons_of_mem _ (List.mem_append_right _ h)) (by decide +kernel))
set_option maxRecDepth 20000 in
theorem gL_trySetAlarm_X9_setAlarm : GoodIn wsL_trySetAlarm (wsV RL 71 RX9 yX9_setAlarm wsX9_setAlarm) := goodIn_app (goodIn_of _ (by decide +kernel)) ggL_trySetAlarm_X9_setAlarm
theorem dL_trySetAlarm_0 : decode cL_trySetAlarm 0 = .ok (.aload_n 0, 1) := by decide +kernel
theorem dL_trySetAlarm_1 : decode cL_trySetAlarm 1 = .ok (.iload_n 1, 1) := by decide +kernel
theorem dL_trySetAlarm_2 : decode cL_trySetAlarm 2 = .ok (.iload_n 2, 1) := by decide +kernel
theorem dL_trySetAlarm_3 : decode cL_trySetAlarm 3 = .ok (.invokevirtual 71, 3) := by decide +kernel
theorem dL_trySetAlarm_6 : decode cL_trySetAlarm 6 = .ok (.ireturn, 1) := by decide +kernel
theorem dL_trySetAlarm_7 : decode cL_trySetAlarm 7 = .ok (.astore_n 3, 1) := by decide +kernel
theorem dL_trySetAlarm_8 : decode cL_trySetAlarm 8 = .ok (.ldc 31, 2) := by decide +kernel
theorem dL_trySetAlarm_10 : decode cL_trySetAlarm 10 = .ok (.ireturn, 1) := by decide +kernel
theorem dL_trySetAlarm_11 : decode cL_trySetAlarm 11 = .ok (.astore_n 3, 1) := by decide +kernel
theorem dL_trySetAlarm_12 : decode cL_trySetAlarm 12 = .ok (.ldc 15, 2) := by decide +kernel
theorem dL_trySetAlarm_14 : decode cL_trySetAlarm 14 = .ok (.ireturn, 1) := by decide +kernel
set_option maxRecDepth 20000 in
theorem ggL_tryBattery_X9_battery : GoodIn wsL_tryBattery wsX9_battery := goodIn_ca (goodIn_r _ [7, 8, 9, 10, 11, 12, 6, 13, 14, 15, 16, 17, 18, 19, 20, 21, 22, 23, 24, 25, 26, 27, 28, 29, 30, 31, 32, 33, 34, 35, 36, 37, 38, 39, 40, 41, 42, 43, 44, 45, 46, 47, 48, 49, 50, 51, 52, 53, 54, 55, 56, 57, 58, 59, 60, 61, 62, 63, 64, 65, 66, 67, 68, 69, 70, 71, 72, 73, 74, 75, 76, 77, 78, 79, 80, 81, 82, 83, 84, 85, 86, 87, 88, 89, 90, 91, 92, 93, 94, 95, 96, 97, 98, 99, 100, 101, 102, 103, 104, 105, 106, 107, 108, 109, 110, 111, 112, 113, 114, 115, 116, 117, 118, 119, 120, 121, 122, 123, 124, 125, 126, 127, 128, 129, 130, 131, 132, 133, 134, 135, 136, 137, 138, 139, 140, 141, 142, 143, 144, 145, 146, 147, 148, 149, 150, 151, 152, 153] rfl (by decide +kernel)) (goodIn_sub (fun _ h => List.mem_cons_of_mem _ (List.mem_append_right _ h)) (by decide +kernel))
set_option maxRecDepth 20000 in
theorem gL_tryBattery_X9_battery : GoodIn wsL_tryBattery (wsV RL 74 RX9 yX9_battery wsX9_battery) := goodIn_app (goodIn_of _ (by decide +kernel)) ggL_tryBattery_X9_battery
theorem dL_tryBattery_0 : decode cL_tryBattery 0 = .ok (.aload_n 0, 1) := by decide +kernel
theorem dL_tryBattery_1 : decode cL_tryBattery 1 = .ok (.iload_n 1, 1) := by decide +kernel
theorem dL_tryBattery_2 : decode cL_tryBattery 2 = .ok (.invokevirtual 74, 3) := by decide +kernel
theorem dL_tryBattery_5 : decode cL_tryBattery 5 = .ok (.ireturn, 1) := by decide +kernel
theorem dL_tryBattery_6 : decode cL_tryBattery 6 = .ok (.astore_n 2, 1) := by decide +kernel
theorem dL_tryBattery_7 : decode cL_tryBattery 7 = .ok (.ldc 15, 2) := by decide +kernel
theorem dL_tryBattery_9 : decode cL_tryBattery 9 = .ok (.ireturn, 1) := by decide +kernel
set_option maxRecDepth 20000 in
theorem ggL_tryUndo_X9_undo : GoodIn wsL_tryUndo wsX9_undo := goodIn_ca (goodIn_r _ [7, 8, 9, 10, 11, 12, 13, 14, 15, 16, 17, 18, 19, 20, 21, 22, 23, 24, 25, 26, 27, 28, 29, 30, 31, 32, 33, 34, 35, 36, 37, 38, 39, 40, 41, 42, 43, 44, 45, 46, 47, 48, 49, 50, 51, 52, 53, 54, 55, 56, 57, 58, 59, 60, 61, 62, 63, 64, 65, 66, 67, 68, 69, 70, 71, 72, 73, 74, 75, 76, 77, 78, 79, 80, 81, 82, 83, 84, 85, 86, 87, 88, 89, 90, 91, 92, 93, 94, 95, 96, 97, 98, 99, 100, 101, 102, 103, 104, 105, 106, 107, 108, 109] rfl (by decide +kernel)) (goodIn_sub (fun _ h => List.mem_cons_of_mem _ (List.mem_append_right _ h)) (by decide +kernel))
set_option maxRecDepth 20000 in
theorem gL_tryUndo_X9_undo : GoodIn wsL_tryUndo (wsV RL 77 RX9 yX9_undo wsX9_undo) := goodIn_app (goodIn_of _ (by decide +kernel)) ggL_tryUndo_X9_undo
theorem dL_tryUndo_0 : decode cL_tryUndo 0 = .ok (.aload_n 0, 1) := by decide +kernel
theorem dL_tryUndo_1 : decode cL_tryUndo 1 = .ok (.invokevirtual 77, 3) := by decide +kernel
theorem dL_tryUndo_4 : decode cL_tryUndo 4 = .ok (.ireturn, 1) := by decide +kernel
theorem dL_tryUndo_5 : decode cL_tryUndo 5 = .ok (.astore_n 1, 1) := by decide +kernel
theorem dL_tryUndo_6 : decode cL_tryUndo 6 = .ok (.ldc 18, 2) := by decide +kernel
theorem dL_tryUndo_8 : decode cL_tryUndo 8 = .ok (.ireturn, 1) := by decide +kernel
set_option maxRecDepth 20000 in
theorem ggL_tryAhead_X9_ahead : GoodIn wsL_tryAhead wsX9_ahead := goodIn_ca (goodIn_r _ [7, 8, 9, 10, 11, 12, 6, 13, 14, 15, 16, 17, 18, 19, 20, 21, 22, 23, 24, 25, 26, 27, 28, 29, 30, 31, 32, 33, 34, 35, 36, 37, 38, 39, 40, 41, 42, 43, 44, 45, 46, 47, 48, 49, 50, 51, 52, 53, 54, 55, 56, 57, 58, 59, 60, 61, 62, 63, 64, 65, 66, 67, 68, 69, 70, 71, 72, 73, 74, 75, 76, 77, 78, 79, 80, 81, 82, 83, 84, 85, 86, 87, 88, 89, 90, 91, 92, 93, 94, 95, 96, 97, 98, 99, 100, 101, 102, 103, 104, 105, 106, 107, 108, 109, 110, 111, 112, 113, 114, 115, 116, 117, 118, 119, 120, 121, 122, 123, 124, 125, 126, 127, 128, 129, 130, 131, 132, 133, 134, 135, 136, 137, 138, 139, 140, 141, 142, 143, 144, 145, 146, 147, 148, 149, 150, 151, 152, 153, 154, 155, 156, 157, 158, 159, 160, 161, 162, 163, 164, 165, 166, 167, 168, 169, 170, 171, 172, 173, 174, 175, 176, 177, 178, 179, 180, 181, 182, 183, 184, 185, 186, 187, 188, 189, 190, 191, 192, 193, 194, 195, 196, 197] rfl (by decide +kernel)) (goodIn_sub (fun _ h => List.mem_cons_of_mem _ (List.mem_append_right _ h)) (by decide +kernel))
set_option maxRecDepth 20000 in
theorem gL_tryAhead_X9_ahead : GoodIn wsL_tryAhead (wsV RL 80 RX9 yX9_ahead wsX9_ahead) := goodIn_app (goodIn_of _ (by decide +kernel)) ggL_tryAhead_X9_ahead
theorem dL_tryAhead_0 : decode cL_tryAhead 0 = .ok (.aload_n 0, 1) := by decide +kernel
theorem dL_tryAhead_1 : decode cL_tryAhead 1 = .ok (.iload_n 1, 1) := by decide +kernel
theorem dL_tryAhead_2 : decode cL_tryAhead 2 = .ok (.iload_n 2, 1) := by decide +kernel
theorem dL_tryAhead_3 : decode cL_tryAhead 3 = .ok (.invokevirtual 80, 3) := by decide +kernel
theorem dL_tryAhead_6 : decode cL_tryAhead 6 = .ok (.ireturn, 1) := by decide +kernel
theorem dL_tryAhead_7 : decode cL_tryAhead 7 = .ok (.astore_n 3, 1) := by decide +kernel
theorem dL_tryAhead_8 : decode cL_tryAhead 8 = .ok (.ldc 15, 2) := by decide +kernel
theorem dL_tryAhead_10 : decode cL_tryAhead 10 = .ok (.ireturn, 1) := by decide +kernel
set_option maxRecDepth 20000 in
theorem ggL_tryDueAfter_X9_dueAfter : GoodIn wsL_tryDueAfter wsX9_dueAfter := goodIn_ca (goodIn_r _ [7, 8, 9, 10, 11, 12, 13, 14, 6, 15, 16, 17, 18, 19, 20, 21, 22, 23, 24, 25, 26, 27, 28, 29, 30, 31, 32, 33, 34, 35, 36, 37, 38, 39, 40, 41, 42, 43, 44, 45, 46, 47, 48, 49, 50, 51, 52, 53, 54, 55, 56, 57, 58, 59, 60, 61, 62, 63, 64, 65, 66, 67, 68, 69, 70, 71, 72, 73, 74, 75, 76, 77, 78, 79, 80, 81, 82, 83, 84, 85, 86, 87, 88, 89, 90, 91, 92, 93, 94, 95, 96, 97, 98, 99, 100, 101, 102, 103, 104, 105, 106, 107, 108, 109, 110, 111, 112, 113, 114, 115, 116, 117, 118, 119, 120, 121, 122, 123, 124, 125, 126, 127, 128, 129, 130, 131, 132, 133, 134, 135, 136, 137, 138, 139, 140, 141, 142, 143, 144, 145, 146, 147, 148, 149, 150, 151, 152, 153, 154, 155, 156, 157, 158, 159, 160, 161, 162, 163, 164, 165, 166, 167, 168] rfl (by decide +kernel)) (goodIn_sub (fun _ h => List.mem_cons_of_mem _ (List.mem_append_right _ h)) (by decide +kernel))
set_option maxRecDepth 20000 in
theorem gL_tryDueAfter_X9_dueAfter : GoodIn wsL_tryDueAfter (wsV RL 83 RX9 yX9_dueAfter wsX9_dueAfter) := goodIn_app (goodIn_of _ (by decide +kernel)) ggL_tryDueAfter_X9_dueAfter
theorem dL_tryDueAfter_0 : decode cL_tryDueAfter 0 = .ok (.aload_n 0, 1) := by decide +kernel
theorem dL_tryDueAfter_1 : decode cL_tryDueAfter 1 = .ok (.iload_n 1, 1) := by decide +kernel
theorem dL_tryDueAfter_2 : decode cL_tryDueAfter 2 = .ok (.invokevirtual 83, 3) := by decide +kernel
theorem dL_tryDueAfter_5 : decode cL_tryDueAfter 5 = .ok (.ireturn, 1) := by decide +kernel
theorem dL_tryDueAfter_6 : decode cL_tryDueAfter 6 = .ok (.astore_n 2, 1) := by decide +kernel
theorem dL_tryDueAfter_7 : decode cL_tryDueAfter 7 = .ok (.ldc 31, 2) := by decide +kernel
theorem dL_tryDueAfter_9 : decode cL_tryDueAfter 9 = .ok (.ireturn, 1) := by decide +kernel
set_option maxRecDepth 20000 in
theorem ggL_tryBestCorrection_X9_bestCorrection : GoodIn wsL_tryBestCorrection wsX9_bestCorrection := goodIn_ca (goodIn_r _ [7, 8, 9, 10, 6, 11, 12, 13, 14, 15, 16, 17, 18, 19, 20, 21, 22, 23, 24, 25, 26, 27, 28, 29, 30, 31, 32, 33, 34, 35, 36, 37, 38, 39, 40, 41, 42, 43, 44, 45, 46, 47, 48, 49, 50, 51, 52, 53, 54, 55, 56, 57, 58, 59, 60, 61, 62, 63, 64, 65, 66, 67, 68, 69, 70, 71, 72, 73, 74, 75, 76, 77, 78, 79, 80, 81] rfl (by decide +kernel)) (goodIn_sub (fun _ h => List.mem_cons_of_mem _ (List.mem_append_right _ h)) (by decide +kernel))
set_option maxRecDepth 20000 in
theorem gL_tryBestCorrection_X9_bestCorrection : GoodIn wsL_tryBestCorrection (wsV RL 86 RX9 yX9_bestCorrection wsX9_bestCorrection) := goodIn_app (goodIn_of _ (by decide +kernel)) ggL_tryBestCorrection_X9_bestCorrection
theorem dL_tryBestCorrection_0 : decode cL_tryBestCorrection 0 = .ok (.aload_n 0, 1) := by decide +kernel
theorem dL_tryBestCorrection_1 : decode cL_tryBestCorrection 1 = .ok (.iload_n 1, 1) := by decide +kernel
theorem dL_tryBestCorrection_2 : decode cL_tryBestCorrection 2 = .ok (.invokevirtual 86, 3) := by decide +kernel
theorem dL_tryBestCorrection_5 : decode cL_tryBestCorrection 5 = .ok (.ireturn, 1) := by decide +kernel
theorem dL_tryBestCorrection_6 : decode cL_tryBestCorrection 6 = .ok (.astore_n 2, 1) := by decide +kernel
theorem dL_tryBestCorrection_7 : decode cL_tryBestCorrection 7 = .ok (.ldc 15, 2) := by decide +kernel
theorem dL_tryBestCorrection_9 : decode cL_tryBestCorrection 9 = .ok (.ireturn, 1) := by decide +kernel
set_option maxRecDepth 20000 in
theorem ggL_tryScript_X9_runScript : GoodIn wsL_tryScript wsX9_runScript := goodIn_ca (goodIn_r _ [7, 8, 9, 10, 11, 12, 13, 14, 6, 15, 16, 17, 18, 19, 20, 21, 22, 23, 24, 25, 26, 27, 28, 29, 30, 31, 32, 33, 34, 35, 36, 37, 38, 39, 40, 41, 42, 43, 44, 45, 46, 47, 48, 49, 50, 51, 52, 53, 54, 55, 56, 57, 58, 59, 60, 61, 62, 63, 64, 65, 66, 67, 68, 69, 70, 71, 72, 73, 74, 75, 76, 77, 78, 79, 80, 81, 82, 83, 84, 85, 86, 87, 88, 89, 90, 91, 92, 93, 94, 95, 96, 97, 98, 99, 100, 101, 102, 103, 104, 105, 106, 107, 108, 109, 110, 111, 112, 113, 114, 115, 116, 117, 118, 119, 120, 121, 122, 123, 124, 125, 126, 127, 128, 129, 130, 131, 132, 133, 134, 135, 136, 137, 138, 139, 140, 141, 142, 143, 144, 145, 146, 147, 148, 149, 150, 151, 152, 153, 154, 155, 156, 157, 158, 159, 160, 161, 162, 163, 164, 165, 166, 167, 168, 169, 170, 171, 172, 173, 174, 175, 176, 177, 178, 179, 180, 181, 182, 183, 184, 185, 186, 187, 188, 189, 190, 191, 192, 193, 194, 195, 196, 197, 198, 199, 200, 201, 202, 203, 204, 205, 206, 207, 208, 209, 210, 211, 212, 213, 214, 215, 216, 217, 218, 219, 220, 221, 222, 223, 224, 225, 226, 227, 228, 229, 230, 231, 232, 233, 234] rfl (by decide +kernel)) (goodIn_sub (fun _ h => List.mem_cons_of_mem _ (List.mem_append_right _ h)) (by decide +kernel))
set_option maxRecDepth 20000 in
theorem gL_tryScript_X9_runScript : GoodIn wsL_tryScript (wsV RL 89 RX9 yX9_runScript wsX9_runScript) := goodIn_app (goodIn_of _ (by decide +kernel)) ggL_tryScript_X9_runScript
theorem dL_tryScript_0 : decode cL_tryScript 0 = .ok (.aload_n 0, 1) := by decide +kernel
theorem dL_tryScript_1 : decode cL_tryScript 1 = .ok (.iload_n 1, 1) := by decide +kernel
theorem dL_tryScript_2 : decode cL_tryScript 2 = .ok (.lload_n 2, 1) := by decide +kernel
theorem dL_tryScript_3 : decode cL_tryScript 3 = .ok (.invokevirtual 89, 3) := by decide +kernel
theorem dL_tryScript_6 : decode cL_tryScript 6 = .ok (.ireturn, 1) := by decide +kernel
theorem dL_tryScript_7 : decode cL_tryScript 7 = .ok (.astore 4, 2) := by decide +kernel
theorem dL_tryScript_9 : decode cL_tryScript 9 = .ok (.ldc 15, 2) := by decide +kernel
theorem dL_tryScript_11 : decode cL_tryScript 11 = .ok (.ireturn, 1) := by decide +kernel
set_option maxRecDepth 20000 in
theorem ggL_trySimulate_X9_simulate : GoodIn wsL_trySimulate wsX9_simulate := goodIn_ca (goodIn_r _ [7, 8, 9, 10, 11, 12, 13, 14, 15, 16, 17, 6, 18, 19, 20, 21, 22, 23, 24, 25, 26, 27, 28, 29, 30, 31, 32, 33, 34, 35, 36, 37, 38, 39, 40, 41, 42, 43, 44, 45, 46, 47, 48, 49, 50, 51, 52, 53, 54, 55, 56, 57, 58, 59, 60, 61, 62, 63, 64, 65, 66, 67, 68, 69, 70, 71, 72, 73, 74, 75, 76, 77, 78, 79, 80, 81, 82, 83, 84, 85, 86, 87, 88, 89, 90, 91, 92, 93, 94, 95, 96, 97, 98, 99, 100, 101, 102, 103, 104, 105, 106, 107, 108, 109, 110, 111, 112, 113, 114, 115, 116, 117, 118, 119, 120, 121, 122, 123, 124, 125, 126, 127, 128, 129, 130, 131, 132, 133, 134, 135, 136, 137, 138, 139, 140, 141, 142, 143, 144, 145, 146, 147, 148, 149, 150, 151, 152, 153, 154, 155, 156, 157, 158, 159, 160, 161, 162, 163, 164, 165, 166, 167, 168, 169, 170, 171, 172, 173, 174, 175, 176, 177, 178, 179, 180, 181, 182, 183, 184, 185, 186, 187, 188, 189] rfl (by decide +kernel)) (goodIn_sub (fun _ h => List.mem_cons_of_mem _ (List.mem_append_right _ h)) (by decide +kernel))
set_option maxRecDepth 20000 in
theorem gL_trySimulate_X9_simulate : GoodIn wsL_trySimulate (wsV RL 93 RX9 yX9_simulate wsX9_simulate) := goodIn_app (goodIn_of _ (by decide +kernel)) ggL_trySimulate_X9_simulate
theorem dL_trySimulate_0 : decode cL_trySimulate 0 = .ok (.aload_n 0, 1) := by decide +kernel
theorem dL_trySimulate_1 : decode cL_trySimulate 1 = .ok (.lload_n 1, 1) := by decide +kernel
theorem dL_trySimulate_2 : decode cL_trySimulate 2 = .ok (.iload_n 3, 1) := by decide +kernel
theorem dL_trySimulate_3 : decode cL_trySimulate 3 = .ok (.invokevirtual 93, 3) := by decide +kernel
theorem dL_trySimulate_6 : decode cL_trySimulate 6 = .ok (.ireturn, 1) := by decide +kernel
theorem dL_trySimulate_7 : decode cL_trySimulate 7 = .ok (.astore 4, 2) := by decide +kernel
theorem dL_trySimulate_9 : decode cL_trySimulate 9 = .ok (.ldc 15, 2) := by decide +kernel
theorem dL_trySimulate_11 : decode cL_trySimulate 11 = .ok (.ireturn, 1) := by decide +kernel
set_option maxRecDepth 20000 in
theorem ggL_trySave_X9_save : GoodIn wsL_trySave wsX9_save := goodIn_ca (goodIn_r _ [7, 8, 9, 10, 11, 12, 13, 14, 6, 15, 16, 17, 18, 19, 20, 21, 22, 23, 24, 25, 26, 27, 28, 29, 30, 31, 32, 33, 34, 35, 36, 37, 38, 39, 40, 41, 42, 43, 44, 45, 46, 47, 48, 49, 50, 51, 52, 53, 54, 55, 56, 57, 58, 59, 60, 61, 62, 63, 64, 65, 66, 67, 68, 69, 70, 71, 72, 73, 74, 75, 76, 77, 78, 79, 80, 81, 82, 83, 84, 85, 86, 87, 88, 89, 90, 91, 92, 93, 94, 95, 96, 97, 98, 99, 100, 101, 102, 103, 104, 105, 106, 107] rfl (by decide +kernel)) (goodIn_sub (fun _ h => List.mem_cons_of_mem _ (List.mem_append_right _ h)) (by decide +kernel))
set_option maxRecDepth 20000 in
theorem gL_trySave_X9_save : GoodIn wsL_trySave (wsV RL 97 RX9 yX9_save wsX9_save) := goodIn_app (goodIn_of _ (by decide +kernel)) ggL_trySave_X9_save
theorem dL_trySave_0 : decode cL_trySave 0 = .ok (.aload_n 0, 1) := by decide +kernel
theorem dL_trySave_1 : decode cL_trySave 1 = .ok (.iload_n 1, 1) := by decide +kernel
theorem dL_trySave_2 : decode cL_trySave 2 = .ok (.invokevirtual 97, 3) := by decide +kernel
theorem dL_trySave_5 : decode cL_trySave 5 = .ok (.ireturn, 1) := by decide +kernel
theorem dL_trySave_6 : decode cL_trySave 6 = .ok (.astore_n 2, 1) := by decide +kernel
theorem dL_trySave_7 : decode cL_trySave 7 = .ok (.ldc 31, 2) := by decide +kernel
theorem dL_trySave_9 : decode cL_trySave 9 = .ok (.ireturn, 1) := by decide +kernel
set_option maxRecDepth 20000 in
theorem ggL_tryRestore_X9_restore : GoodIn wsL_tryRestore wsX9_restore := goodIn_ca (goodIn_ca (goodIn_r _ [9, 10, 11, 12, 13, 14, 15, 16, 17, 18, 19, 8, 20, 21, 22, 23, 24, 25, 26, 27, 28, 29, 30, 31, 32, 33, 34, 35, 36, 37, 38, 39, 40, 41, 42, 43, 44, 45, 46, 47, 48, 49, 50, 51, 52, 53, 54, 55, 56, 57, 58, 59, 60, 61, 62, 63, 64, 65, 66, 67, 68, 69, 70, 71, 72, 73, 74, 75, 76, 77, 78, 79, 80, 81, 82, 83, 84, 85, 86, 87, 88, 89, 90, 91, 92, 93, 94, 95, 96, 97, 98, 99, 100, 101, 102, 103, 104, 105, 106, 107, 108, 109, 110, 111, 112, 113, 114, 115, 116, 117, 118, 119, 120] rfl (by decide +kernel)) (goodIn_sub (fun _ h => List.mem_cons_of_mem _ (List.mem_append_left _ (List.mem_append_right _ h))) (by decide +kernel))) (goodIn_sub (fun _ h => List.mem_cons_of_mem _ (List.mem_append_right _ h)) (by decide +kernel))
set_option maxRecDepth 20000 in
theorem gL_tryRestore_X9_restore : GoodIn wsL_tryRestore (wsV RL 100 RX9 yX9_restore wsX9_restore) := goodIn_app (goodIn_of _ (by decide +kernel)) ggL_tryRestore_X9_restore
theorem dL_tryRestore_0 : decode cL_tryRestore 0 = .ok (.aload_n 0, 1) := by decide +kernel
theorem dL_tryRestore_1 : decode cL_tryRestore 1 = .ok (.iload_n 1, 1) := by decide +kernel
theorem dL_tryRestore_2 : decode cL_tryRestore 2 = .ok (.invokevirtual 100, 3) := by decide +kernel
theorem dL_tryRestore_5 : decode cL_tryRestore 5 = .ok (.ireturn, 1) := by decide +kernel
theorem dL_tryRestore_6 : decode cL_tryRestore 6 = .ok (.astore_n 2, 1) := by decide +kernel
theorem dL_tryRestore_7 : decode cL_tryRestore 7 = .ok (.ldc 31, 2) := by decide +kernel
theorem dL_tryRestore_9 : decode cL_tryRestore 9 = .ok (.ireturn, 1) := by decide +kernel
theorem dL_tryRestore_10 : decode cL_tryRestore 10 = .ok (.astore_n 2, 1) := by decide +kernel
theorem dL_tryRestore_11 : decode cL_tryRestore 11 = .ok (.ldc 18, 2) := by decide +kernel
theorem dL_tryRestore_13 : decode cL_tryRestore 13 = .ok (.ireturn, 1) := by decide +kernel
set_option maxRecDepth 20000 in
theorem ggL_account_X9_account : GoodIn wsL_account wsX9_account := goodIn_ca (goodIn_r _ [7, 8, 9, 10, 11, 12, 13, 14, 15, 6, 16, 17, 18, 19, 20, 21, 22, 23, 24, 25, 26, 27, 28, 29, 30, 31, 32, 33, 34, 35, 36, 37, 38, 39, 40] rfl (by decide +kernel)) (goodIn_sub (fun _ h => List.mem_cons_of_mem _ (List.mem_append_right _ h)) (by decide +kernel))
set_option maxRecDepth 20000 in
theorem gL_account_X9_account : GoodIn wsL_account (wsV RL 103 RX9 yX9_account wsX9_account) := goodIn_app (goodIn_of _ (by decide +kernel)) ggL_account_X9_account
theorem dL_account_0 : decode cL_account 0 = .ok (.aload_n 0, 1) := by decide +kernel
theorem dL_account_1 : decode cL_account 1 = .ok (.iload_n 1, 1) := by decide +kernel
theorem dL_account_2 : decode cL_account 2 = .ok (.invokevirtual 103, 3) := by decide +kernel
theorem dL_account_5 : decode cL_account 5 = .ok (.lreturn, 1) := by decide +kernel
theorem dL_account_6 : decode cL_account 6 = .ok (.astore_n 2, 1) := by decide +kernel
theorem dL_account_7 : decode cL_account 7 = .ok (.ldc2_w 107, 3) := by decide +kernel
theorem dL_account_10 : decode cL_account 10 = .ok (.lreturn, 1) := by decide +kernel
theorem dL_number_0 : decode cL_number 0 = .ok (.iload_n 1, 1) := by decide +kernel
theorem dL_number_1 : decode cL_number 1 = .ok (.aload_n 0, 1) := by decide +kernel
theorem dL_number_2 : decode cL_number 2 = .ok (.arraylength, 1) := by decide +kernel
theorem dL_number_3 : decode cL_number 3 = .ok (.if_icmp .ge 9, 3) := by decide +kernel
theorem dL_number_6 : decode cL_number 6 = .ok (.aload_n 0, 1) := by decide +kernel
theorem dL_number_7 : decode cL_number 7 = .ok (.iload_n 1, 1) := by decide +kernel
theorem dL_number_8 : decode cL_number 8 = .ok (.iaload, 1) := by decide +kernel
theorem dL_number_9 : decode cL_number 9 = .ok (.goto 13, 3) := by decide +kernel
theorem dL_number_12 : decode cL_number 12 = .ok (.ldc 109, 2) := by decide +kernel
theorem dL_number_14 : decode cL_number 14 = .ok (.iload_n 1, 1) := by decide +kernel
theorem dL_number_15 : decode cL_number 15 = .ok (.iconst 5, 1) := by decide +kernel
theorem dL_number_16 : decode cL_number 16 = .ok (.iadd, 1) := by decide +kernel
theorem dL_number_17 : decode cL_number 17 = .ok (.imul, 1) := by decide +kernel
theorem dL_number_18 : decode cL_number 18 = .ok (.sipush 10163, 3) := by decide +kernel
theorem dL_number_21 : decode cL_number 21 = .ok (.iadd, 1) := by decide +kernel
theorem dL_number_22 : decode cL_number 22 = .ok (.ldc 110, 2) := by decide +kernel
theorem dL_number_24 : decode cL_number 24 = .ok (.iand, 1) := by decide +kernel
theorem dL_number_25 : decode cL_number 25 = .ok (.ireturn, 1) := by decide +kernel
theorem dL_size_0 : decode cL_size 0 = .ok (.iload_n 0, 1) := by decide +kernel
theorem dL_size_1 : decode cL_size 1 = .ok (.ifCond .ge 8, 3) := by decide +kernel
theorem dL_size_4 : decode cL_size 4 = .ok (.iload_n 0, 1) := by decide +kernel
theorem dL_size_5 : decode cL_size 5 = .ok (.ineg, 1) := by decide +kernel
theorem dL_size_6 : decode cL_size 6 = .ok (.goto 4, 3) := by decide +kernel
theorem dL_size_9 : decode cL_size 9 = .ok (.iload_n 0, 1) := by decide +kernel
theorem dL_size_10 : decode cL_size 10 = .ok (.ireturn, 1) := by decide +kernel
set_option maxRecDepth 20000 in
theorem ggL_put_L_tryAppend : GoodIn wsL_put wsL_tryAppend := goodIn_ca (goodIn_ca (goodIn_r _ [4, 5, 6, 7, 8, 9, 10, 11, 12, 13, 14, 15, 16, 17, 18, 19, 20, 21, 22, 23, 24, 25, 26, 27, 28, 29, 30, 31, 32, 33, 34, 35, 36, 37, 38, 39, 40, 41] rfl (by decide +kernel)) (goodIn_sub (fun _ h => List.mem_cons_of_mem _ (List.mem_append_left _ (List.mem_append_right _ h))) (by decide +kernel))) (goodIn_sub (fun _ h => List.mem_cons_of_mem _ (List.mem_append_right _ h)) (by decide +kernel))
set_option maxRecDepth 20000 in
theorem gL_put_L_tryAppend : GoodIn wsL_put (va_wsS RL 111 yL_tryAppend wsL_tryAppend) := goodIn_app (goodIn_of _ (by decide +kernel)) ggL_put_L_tryAppend
theorem dL_put_0 : decode cL_put 0 = .ok (.aload_n 0, 1) := by decide +kernel
theorem dL_put_1 : decode cL_put 1 = .ok (.iload_n 2, 1) := by decide +kernel
theorem dL_put_2 : decode cL_put 2 = .ok (.invokestatic 111, 3) := by decide +kernel
theorem dL_put_5 : decode cL_put 5 = .ok (.ifCond .le 15, 3) := by decide +kernel
theorem dL_put_8 : decode cL_put 8 = .ok (.aload_n 1, 1) := by decide +kernel
theorem dL_put_9 : decode cL_put 9 = .ok (.iload_n 2, 1) := by decide +kernel
theorem dL_put_10 : decode cL_put 10 = .ok (.invokestatic 111, 3) := by decide +kernel
theorem dL_put_13 : decode cL_put 13 = .ok (.ifCond .le 7, 3) := by decide +kernel
theorem dL_put_16 : decode cL_put 16 = .ok (.iconst 1, 1) := by decide +kernel
theorem dL_put_17 : decode cL_put 17 = .ok (.goto 4, 3) := by decide +kernel
theorem dL_put_20 : decode cL_put 20 = .ok (.iconst 0, 1) := by decide +kernel
theorem dL_put_21 : decode cL_put 21 = .ok (.ireturn, 1) := by decide +kernel
set_option maxRecDepth 20000 in
theorem ggL_digits_L_put : GoodIn wsL_digits wsL_put := goodIn_ca (goodIn_ca (goodIn_r _ [4, 5, 6, 3, 7, 8, 9, 10, 11, 12, 13, 14, 15, 16, 17, 18, 19, 20, 21, 22, 23, 24, 25, 26, 27, 28, 29, 30, 31, 32, 33, 34, 35, 36, 37, 38, 39, 40, 41, 42, 43, 44] rfl (by decide +kernel)) (goodIn_sub (fun _ h => List.mem_cons_of_mem _ (List.mem_append_left _ (List.mem_append_right _ h))) (by decide +kernel))) (goodIn_sub (fun _ h => List.mem_cons_of_mem _ (List.mem_append_right _ h)) (by decide +kernel))
set_option maxRecDepth 20000 in
theorem gL_digits_L_put : GoodIn wsL_digits (va_wsS RL 117 yL_put wsL_put) := goodIn_app (goodIn_of _ (by decide +kernel)) ggL_digits_L_put
theorem dL_digits_0 : decode cL_digits 0 = .ok (.iconst 1, 1) := by decide +kernel
theorem dL_digits_1 : decode cL_digits 1 = .ok (.istore 4, 2) := by decide +kernel
theorem dL_digits_3 : decode cL_digits 3 = .ok (.iload_n 3, 1) := by decide +kernel
theorem dL_digits_4 : decode cL_digits 4 = .ok (.istore 5, 2) := by decide +kernel
theorem dL_digits_6 : decode cL_digits 6 = .ok (.iload 5, 2) := by decide +kernel
theorem dL_digits_8 : decode cL_digits 8 = .ok (.ifCond .le 43, 3) := by decide +kernel
theorem dL_digits_11 : decode cL_digits 11 = .ok (.iload 4, 2) := by decide +kernel
theorem dL_digits_13 : decode cL_digits 13 = .ok (.ifCond .eq 25, 3) := by decide +kernel
theorem dL_digits_16 : decode cL_digits 16 = .ok (.aload_n 0, 1) := by decide +kernel
theorem dL_digits_17 : decode cL_digits 17 = .ok (.aload_n 1, 1) := by decide +kernel
theorem dL_digits_18 : decode cL_digits 18 = .ok (.bipush 48, 2) := by decide +kernel
theorem dL_digits_20 : decode cL_digits 20 = .ok (.iload_n 2, 1) := by decide +kernel
theorem dL_digits_21 : decode cL_digits 21 = .ok (.iload 5, 2) := by decide +kernel
theorem dL_digits_23 : decode cL_digits 23 = .ok (.idiv, 1) := by decide +kernel
theorem dL_digits_24 : decode cL_digits 24 = .ok (.bipush 10, 2) := by decide +kernel
theorem dL_digits_26 : decode cL_digits 26 = .ok (.irem, 1) := by decide +kernel
theorem dL_digits_27 : decode cL_digits 27 = .ok (.iadd, 1) := by decide +kernel
theorem dL_digits_28 : decode cL_digits 28 = .ok (.invokestatic 117, 3) := by decide +kernel
theorem dL_digits_31 : decode cL_digits 31 = .ok (.ifCond .eq 7, 3) := by decide +kernel
theorem dL_digits_34 : decode cL_digits 34 = .ok (.iconst 1, 1) := by decide +kernel
theorem dL_digits_35 : decode cL_digits 35 = .ok (.goto 4, 3) := by decide +kernel
theorem dL_digits_38 : decode cL_digits 38 = .ok (.iconst 0, 1) := by decide +kernel
theorem dL_digits_39 : decode cL_digits 39 = .ok (.istore 4, 2) := by decide +kernel
theorem dL_digits_41 : decode cL_digits 41 = .ok (.iload 5, 2) := by decide +kernel
theorem dL_digits_43 : decode cL_digits 43 = .ok (.bipush 10, 2) := by decide +kernel
theorem dL_digits_45 : decode cL_digits 45 = .ok (.idiv, 1) := by decide +kernel
theorem dL_digits_46 : decode cL_digits 46 = .ok (.istore 5, 2) := by decide +kernel
theorem dL_digits_48 : decode cL_digits 48 = .ok (.goto (-42), 3) := by decide +kernel
theorem dL_digits_51 : decode cL_digits 51 = .ok (.iload 4, 2) := by decide +kernel
theorem dL_digits_53 : decode cL_digits 53 = .ok (.ireturn, 1) := by decide +kernel
set_option maxRecDepth 20000 in
theorem ggL_told_L_number : GoodIn wsL_told wsL_number := goodIn_r _ [6, 7, 8] rfl (by decide +kernel)
set_option maxRecDepth 20000 in
theorem gL_told_L_number : GoodIn wsL_told (va_wsS RL 121 yL_number wsL_number) := goodIn_app (goodIn_of _ (by decide +kernel)) ggL_told_L_number
set_option maxRecDepth 20000 in
theorem ggL_told_X9_clearText : GoodIn wsL_told wsX9_clearText := goodIn_r _ [13, 14, 15, 318, 319, 320, 321, 322, 323, 324, 325, 326, 327, 328, 329] rfl (by decide +kernel)
set_option maxRecDepth 20000 in
theorem gL_told_X9_clearText : GoodIn wsL_told (wsV RL 125 RX9 yX9_clearText wsX9_clearText) := goodIn_app (goodIn_of _ (by decide +kernel)) ggL_told_X9_clearText
set_option maxRecDepth 20000 in
theorem ggL_told_L_put : GoodIn wsL_told wsL_put := goodIn_ca (goodIn_ca (goodIn_r _ [18, 19, 20, 5, 21, 22, 23, 24, 2, 25, 26, 27, 12, 28, 29, 30, 14, 15, 31, 32, 33, 34, 35, 36, 37, 38, 39, 40, 41, 42, 318, 319, 320, 321, 322, 323, 324, 325, 326, 327, 328, 329] rfl (by decide +kernel)) (goodIn_sub (fun _ h => List.mem_cons_of_mem _ (List.mem_append_left _ (List.mem_append_left _ (List.mem_append_right _ h)))) (by decide +kernel))) (goodIn_sub (fun _ h => List.mem_cons_of_mem _ (List.mem_append_left _ (List.mem_append_right _ h))) (by decide +kernel))
set_option maxRecDepth 20000 in
theorem gL_told_L_put : GoodIn wsL_told (va_wsS RL 117 yL_put wsL_put) := goodIn_app (goodIn_of _ (by decide +kernel)) ggL_told_L_put
set_option maxRecDepth 20000 in
theorem ggL_told_X9_errorPosition : GoodIn wsL_told wsX9_errorPosition := goodIn_r _ [46, 14, 47, 48, 49, 50, 39, 51, 52, 41, 53, 54, 55, 56, 57, 58, 59, 60, 61, 62, 63, 64, 65, 66, 67, 68, 69, 70, 71, 72, 73, 74, 75, 76, 77, 78, 79, 80, 81, 82, 83, 84, 85, 86, 87, 88, 89, 90, 91, 92, 93, 94, 95, 96, 97, 98, 99, 100, 101, 102, 103, 104, 105, 106, 107, 108, 109, 110, 111, 112, 113, 114, 115, 116, 117, 118, 119, 120, 121, 122, 123, 124, 125, 126, 127, 128, 129, 130, 131, 132, 133, 134, 42, 135, 136, 137, 138, 139, 140, 141, 142, 143, 144, 145, 146, 147, 148, 149, 150, 151, 152, 153, 154, 155, 156, 157, 158, 159, 160, 161, 162, 163, 318, 319, 320, 321, 322, 323, 324, 325, 326, 327, 328, 329, 330, 331, 332, 333, 334, 335, 336, 337, 338, 339, 340, 341, 342, 343, 344, 345, 346, 347, 348, 349, 350, 351, 352, 353, 354, 355] rfl (by decide +kernel)
set_option maxRecDepth 20000 in
theorem gL_told_X9_errorPosition : GoodIn wsL_told (wsV RL 128 RX9 yX9_errorPosition wsX9_errorPosition) := goodIn_app (goodIn_of _ (by decide +kernel)) ggL_told_X9_errorPosition
set_option maxRecDepth 20000 in
theorem ggL_told_L_size : GoodIn wsL_told wsL_size := goodIn_r _ [166] rfl (by decide +kernel)
set_option maxRecDepth 20000 in
theorem gL_told_L_size : GoodIn wsL_told (va_wsS RL 131 yL_size wsL_size) := goodIn_app (goodIn_of _ (by decide +kernel)) ggL_told_L_size
set_option maxRecDepth 20000 in
theorem ggL_told_L_digits : GoodIn wsL_told wsL_digits := goodIn_ca (goodIn_ca (goodIn_r _ [169, 16, 17, 5, 18, 19, 20, 21, 22, 23, 24, 2, 25, 26, 27, 12, 28, 29, 30, 14, 15, 31, 32, 33, 34, 35, 36, 37, 38, 39, 40, 41, 42, 318, 319, 320, 321, 322, 323, 324, 325, 326, 327, 328, 329] rfl (by decide +kernel)) (goodIn_sub (fun _ h => List.mem_cons_of_mem _ (List.mem_append_left _ (List.mem_append_left _ (List.mem_append_right _ h)))) (by decide +kernel))) (goodIn_sub (fun _ h => List.mem_cons_of_mem _ (List.mem_append_left _ (List.mem_append_right _ h))) (by decide +kernel))
set_option maxRecDepth 20000 in
theorem gL_told_L_digits : GoodIn wsL_told (va_wsS RL 134 yL_digits wsL_digits) := goodIn_app (goodIn_of _ (by decide +kernel)) ggL_told_L_digits
set_option maxRecDepth 20000 in
theorem ggL_told_L_tryLoad : GoodIn wsL_told wsL_tryLoad := goodIn_ca (goodIn_r _ [172, 23, 2, 173, 174, 175, 12, 176, 29, 30, 14, 47, 177, 178, 179, 180, 48, 49, 50, 39, 51, 52, 41, 53, 54, 55, 56, 57, 58, 59, 60, 61, 62, 63, 64, 65, 66, 67, 68, 69, 70, 71, 72, 73, 74, 75, 76, 77, 78, 79, 80, 81, 82, 83, 84, 85, 86, 87, 88, 89, 90, 91, 92, 93, 94, 95, 96, 97, 98, 99, 100, 101, 102, 103, 104, 105, 106, 107, 108, 109, 110, 111, 112, 113, 114, 115, 116, 117, 118, 119, 120, 121, 122, 123, 124, 125, 126, 127, 128, 129, 130, 131, 132, 133, 134, 42, 135, 136, 137, 138, 139, 140, 141, 142, 143, 144, 145, 146, 147, 148, 149, 150, 151, 152, 153, 154, 155, 156, 157, 158, 159, 160, 161, 162, 163, 181, 182, 183, 184, 185, 186, 187, 188, 189, 190, 191, 192, 193, 194, 195, 196, 197, 198, 199, 200, 201, 202, 203, 204, 205, 206, 207, 208, 209, 210, 211, 212, 213, 214, 215, 216, 217, 218, 219, 220, 221, 222, 223, 224, 225, 226, 227, 318, 319, 320, 321, 322, 323, 324, 325, 326, 327, 328, 329, 330, 331, 332, 333, 334, 335, 336, 337, 338, 339, 340, 341, 342, 343, 344, 345, 346, 347, 348, 349, 350, 351, 352, 353, 354, 355, 356, 357, 358, 359] rfl (by decide +kernel)) (goodIn_sub (fun _ h => List.mem_cons_of_mem _ (List.mem_append_left _ (List.mem_append_left _ (List.mem_append_right _ h)))) (by decide +kernel))
set_option maxRecDepth 20000 in
theorem gL_told_L_tryLoad : GoodIn wsL_told (va_wsS RL 139 yL_tryLoad wsL_tryLoad) := goodIn_app (goodIn_of _ (by decide +kernel)) ggL_told_L_tryLoad
set_option maxRecDepth 20000 in
theorem ggL_told_L_tryAbout : GoodIn wsL_told wsL_tryAbout := goodIn_ca (goodIn_r _ [230, 22, 24, 231, 232, 233, 12, 234, 178, 31, 32, 33, 34, 35, 235, 236, 237, 57, 238, 59, 60, 239, 240, 241, 242, 243, 61, 244, 245, 62, 246, 247, 248, 249, 250, 251, 252, 253, 254, 255, 83, 256, 86, 87, 257, 258, 259, 260, 63, 261, 262, 263, 264, 265, 266, 267, 268, 105, 269, 113, 114, 108, 318, 319, 320, 321, 322, 330, 331, 332, 333, 334, 335, 336, 337, 338, 339, 340, 341, 342, 343, 344, 345, 346, 347, 348, 349, 350, 351, 352, 353, 354, 355] rfl (by decide +kernel)) (goodIn_sub (fun _ h => List.mem_cons_of_mem _ (List.mem_append_left _ (List.mem_append_right _ h))) (by decide +kernel))
set_option maxRecDepth 20000 in
theorem gL_told_L_tryAbout : GoodIn wsL_told (va_wsS RL 143 yL_tryAbout wsL_tryAbout) := goodIn_app (goodIn_of _ (by decide +kernel)) ggL_told_L_tryAbout
set_option maxRecDepth 20000 in
theorem ggL_told_L_tryRegister : GoodIn wsL_told wsL_tryRegister := goodIn_ca (goodIn_r _ [272, 273, 274, 275, 276, 277, 12, 278, 178, 279, 280, 281, 282, 283, 284, 318, 319, 320, 321, 322, 330, 331, 332, 333, 334, 335] rfl (by decide +kernel)) (goodIn_sub (fun _ h => List.mem_cons_of_mem _ (List.mem_append_right _ h)) (by decide +kernel))
set_option maxRecDepth 20000 in
theorem gL_told_L_tryRegister : GoodIn wsL_told (va_wsS RL 146 yL_tryRegister wsL_tryRegister) := goodIn_app (goodIn_of _ (by decide +kernel)) ggL_told_L_tryRegister
set_option maxRecDepth 20000 in
theorem ggL_told_L_tryIsGuarded : GoodIn wsL_told wsL_tryIsGuarded := goodIn_ca (goodIn_r _ [287, 273, 274, 288, 289, 290, 12, 291, 178, 292, 293, 280, 281, 282, 283, 284, 318, 319, 320, 321, 322, 330, 331, 332, 333, 334, 335, 347, 348, 349, 350, 351, 352] rfl (by decide +kernel)) (goodIn_sub (fun _ h => List.mem_cons_of_mem _ (List.mem_append_right _ h)) (by decide +kernel))
set_option maxRecDepth 20000 in
theorem gL_told_L_tryIsGuarded : GoodIn wsL_told (va_wsS RL 149 yL_tryIsGuarded wsL_tryIsGuarded) := goodIn_app (goodIn_of _ (by decide +kernel)) ggL_told_L_tryIsGuarded
set_option maxRecDepth 20000 in
theorem ggL_told_L_tryUndo : GoodIn wsL_told wsL_tryUndo := goodIn_ca (goodIn_r _ [296, 23, 2, 297, 298, 299, 12, 300, 29, 30, 179, 301, 178, 302, 303, 304, 213, 305, 215, 306, 307, 182, 183, 57, 184, 59, 60, 61, 62, 101, 185, 186, 187, 188, 63, 189, 190, 191, 67, 192, 77, 78, 79, 69, 70, 71, 72, 193, 194, 195, 83, 196, 85, 197, 86, 87, 88, 198, 199, 200, 92, 201, 94, 202, 203, 204, 205, 95, 96, 206, 207, 208, 105, 209, 113, 114, 108, 318, 319, 320, 321, 322, 356, 357, 330, 331, 332, 333, 334, 335, 336, 337, 338, 339, 340, 341, 342, 343, 344, 345, 346, 347, 348, 349, 350, 351, 352, 353, 354, 355] rfl (by decide +kernel)) (goodIn_sub (fun _ h => List.mem_cons_of_mem _ (List.mem_append_left _ (List.mem_append_left _ (List.mem_append_right _ h)))) (by decide +kernel))
set_option maxRecDepth 20000 in
theorem gL_told_L_tryUndo : GoodIn wsL_told (va_wsS RL 152 yL_tryUndo wsL_tryUndo) := goodIn_app (goodIn_of _ (by decide +kernel)) ggL_told_L_tryUndo
set_option maxRecDepth 20000 in
theorem ggL_told_L_tryRestore : GoodIn wsL_told wsL_tryRestore := goodIn_ca (goodIn_ca (goodIn_r _ [310, 273, 23, 274, 2, 311, 312, 313, 12, 314, 29, 30, 180, 315, 178, 316, 179, 317, 280, 281, 282, 283, 284, 181, 182, 183, 57, 184, 59, 60, 61, 62, 101, 185, 186, 187, 188, 63, 189, 190, 191, 67, 192, 77, 78, 79, 69, 70, 71, 72, 193, 194, 195, 83, 196, 85, 197, 86, 87, 88, 198, 199, 200, 92, 201, 94, 202, 203, 204, 205, 95, 96, 206, 207, 208, 105, 209, 113, 114, 108, 210, 211, 212, 213, 214, 215, 318, 319, 320, 321, 322, 358, 359, 330, 331, 332, 333, 334, 335, 336, 337, 338, 339, 340, 341, 342, 343, 344, 345, 346, 347, 348, 349, 350, 351, 352, 353, 354, 355, 356, 357] rfl (by decide +kernel)) (goodIn_sub (fun _ h => List.mem_cons_of_mem _ (List.mem_append_left _ (List.mem_append_left _ (List.mem_append_right _ h)))) (by decide +kernel))) (goodIn_sub (fun _ h => List.mem_cons_of_mem _ (List.mem_append_right _ h)) (by decide +kernel))
set_option maxRecDepth 20000 in
theorem gL_told_L_tryRestore : GoodIn wsL_told (va_wsS RL 155 yL_tryRestore wsL_tryRestore) := goodIn_app (goodIn_of _ (by decide +kernel)) ggL_told_L_tryRestore
theorem dL_told_0 : decode cL_told 0 = .ok (.aload_n 2, 1) := by decide +kernel
theorem dL_told_1 : decode cL_told 1 = .ok (.iload_n 3, 1) := by decide +kernel
theorem dL_told_2 : decode cL_told 2 = .ok (.invokestatic 121, 3) := by decide +kernel
theorem dL_told_5 : decode cL_told 5 = .ok (.istore 4, 2) := by decide +kernel
theorem dL_told_7 : decode cL_told 7 = .ok (.aload_n 2, 1) := by decide +kernel
theorem dL_told_8 : decode cL_told 8 = .ok (.iload_n 3, 1) := by decide +kernel
theorem dL_told_9 : decode cL_told 9 = .ok (.iconst 1, 1) := by decide +kernel
theorem dL_told_10 : decode cL_told 10 = .ok (.iadd, 1) := by decide +kernel
theorem dL_told_11 : decode cL_told 11 = .ok (.invokestatic 121, 3) := by decide +kernel
theorem dL_told_14 : decode cL_told 14 = .ok (.istore 5, 2) := by decide +kernel
theorem dL_told_16 : decode cL_told 16 = .ok (.iload 4, 2) := by decide +kernel
theorem dL_told_18 : decode cL_told 18 = .ok (.sipush 1001, 3) := by decide +kernel
theorem dL_told_21 : decode cL_told 21 = .ok (.irem, 1) := by decide +kernel
theorem dL_told_22 : decode cL_told 22 = .ok (.sipush 500, 3) := by decide +kernel
theorem dL_told_25 : decode cL_told 25 = .ok (.isub, 1) := by decide +kernel
theorem dL_told_26 : decode cL_told 26 = .ok (.istore 6, 2) := by decide +kernel
theorem dL_told_28 : decode cL_told 28 = .ok (.iload 5, 2) := by decide +kernel
theorem dL_told_30 : decode cL_told 30 = .ok (.iload 5, 2) := by decide +kernel
theorem dL_told_32 : decode cL_told 32 = .ok (.iconst 2, 1) := by decide +kernel
theorem dL_told_33 : decode cL_told 33 = .ok (.irem, 1) := by decide +kernel
theorem dL_told_34 : decode cL_told 34 = .ok (.ifCond .ne 9, 3) := by decide +kernel
theorem dL_told_37 : decode cL_told 37 = .ok (.sipush 200, 3) := by decide +kernel
theorem dL_told_40 : decode cL_told 40 = .ok (.goto 6, 3) := by decide +kernel
theorem dL_told_43 : decode cL_told 43 = .ok (.sipush 9000, 3) := by decide +kernel
theorem dL_told_46 : decode cL_told 46 = .ok (.irem, 1) := by decide +kernel
theorem dL_told_47 : decode cL_told 47 = .ok (.istore 7, 2) := by decide +kernel
theorem dL_told_49 : decode cL_told 49 = .ok (.aload_n 0, 1) := by decide +kernel
theorem dL_told_50 : decode cL_told 50 = .ok (.invokevirtual 125, 3) := by decide +kernel
theorem dL_told_53 : decode cL_told 53 = .ok (.aload_n 1, 1) := by decide +kernel
theorem dL_told_54 : decode cL_told 54 = .ok (.invokevirtual 125, 3) := by decide +kernel
theorem dL_told_57 : decode cL_told 57 = .ok (.if_icmp .ne 90, 3) := by decide +kernel
theorem dL_told_60 : decode cL_told 60 = .ok (.aload_n 0, 1) := by decide +kernel
theorem dL_told_61 : decode cL_told 61 = .ok (.aload_n 1, 1) := by decide +kernel
theorem dL_told_62 : decode cL_told 62 = .ok (.bipush 75, 2) := by decide +kernel
theorem dL_told_64 : decode cL_told 64 = .ok (.invokestatic 117, 3) := by decide +kernel
theorem dL_told_67 : decode cL_told 67 = .ok (.ifCond .eq 80, 3) := by decide +kernel
theorem dL_told_70 : decode cL_told 70 = .ok (.aload_n 0, 1) := by decide +kernel
theorem dL_told_71 : decode cL_told 71 = .ok (.invokevirtual 128, 3) := by decide +kernel
theorem dL_told_74 : decode cL_told 74 = .ok (.iconst 1, 1) := by decide +kernel
theorem dL_told_75 : decode cL_told 75 = .ok (.if_icmp .ne 72, 3) := by decide +kernel
theorem dL_told_78 : decode cL_told 78 = .ok (.aload_n 0, 1) := by decide +kernel
theorem dL_told_79 : decode cL_told 79 = .ok (.aload_n 1, 1) := by decide +kernel
theorem dL_told_80 : decode cL_told 80 = .ok (.iload 6, 2) := by decide +kernel
theorem dL_told_82 : decode cL_told 82 = .ok (.ifCond .ge 8, 3) := by decide +kernel
theorem dL_told_85 : decode cL_told 85 = .ok (.bipush 45, 2) := by decide +kernel
theorem dL_told_87 : decode cL_told 87 = .ok (.goto 5, 3) := by decide +kernel
theorem dL_told_90 : decode cL_told 90 = .ok (.bipush 43, 2) := by decide +kernel
theorem dL_told_92 : decode cL_told 92 = .ok (.invokestatic 117, 3) := by decide +kernel
theorem dL_told_95 : decode cL_told 95 = .ok (.ifCond .eq 52, 3) := by decide +kernel
theorem dL_told_98 : decode cL_told 98 = .ok (.aload_n 0, 1) := by decide +kernel
theorem dL_told_99 : decode cL_told 99 = .ok (.aload_n 1, 1) := by decide +kernel
theorem dL_told_100 : decode cL_told 100 = .ok (.iload 6, 2) := by decide +kernel
theorem dL_told_102 : decode cL_told 102 = .ok (.invokestatic 131, 3) := by decide +kernel
theorem dL_told_105 : decode cL_told 105 = .ok (.bipush 100, 2) := by decide +kernel
theorem dL_told_107 : decode cL_told 107 = .ok (.invokestatic 134, 3) := by decide +kernel
theorem dL_told_110 : decode cL_told 110 = .ok (.ifCond .eq 37, 3) := by decide +kernel
theorem dL_told_113 : decode cL_told 113 = .ok (.aload_n 0, 1) := by decide +kernel
theorem dL_told_114 : decode cL_told 114 = .ok (.invokevirtual 128, 3) := by decide +kernel
theorem dL_told_117 : decode cL_told 117 = .ok (.iconst 5, 1) := by decide +kernel
theorem dL_told_118 : decode cL_told 118 = .ok (.if_icmp .ne 29, 3) := by decide +kernel
theorem dL_told_121 : decode cL_told 121 = .ok (.aload_n 0, 1) := by decide +kernel
theorem dL_told_122 : decode cL_told 122 = .ok (.aload_n 1, 1) := by decide +kernel
theorem dL_told_123 : decode cL_told 123 = .ok (.iload 7, 2) := by decide +kernel
theorem dL_told_125 : decode cL_told 125 = .ok (.sipush 1000, 3) := by decide +kernel
theorem dL_told_128 : decode cL_told 128 = .ok (.invokestatic 134, 3) := by decide +kernel
theorem dL_told_131 : decode cL_told 131 = .ok (.ifCond .eq 16, 3) := by decide +kernel
theorem dL_told_134 : decode cL_told 134 = .ok (.aload_n 0, 1) := by decide +kernel
theorem dL_told_135 : decode cL_told 135 = .ok (.invokevirtual 128, 3) := by decide +kernel
theorem dL_told_138 : decode cL_told 138 = .ok (.ldc 138, 2) := by decide +kernel
theorem dL_told_140 : decode cL_told 140 = .ok (.if_icmp .ne 7, 3) := by decide +kernel
theorem dL_told_143 : decode cL_told 143 = .ok (.iconst 1, 1) := by decide +kernel
theorem dL_told_144 : decode cL_told 144 = .ok (.goto 4, 3) := by decide +kernel
theorem dL_told_147 : decode cL_told 147 = .ok (.iconst 0, 1) := by decide +kernel
theorem dL_told_148 : decode cL_told 148 = .ok (.istore 8, 2) := by decide +kernel
theorem dL_told_150 : decode cL_told 150 = .ok (.bipush 9, 2) := by decide +kernel
theorem dL_told_152 : decode cL_told 152 = .ok (.istore 9, 2) := by decide +kernel
theorem dL_told_154 : decode cL_told 154 = .ok (.iconst 0, 1) := by decide +kernel
theorem dL_told_155 : decode cL_told 155 = .ok (.istore 10, 2) := by decide +kernel
theorem dL_told_157 : decode cL_told 157 = .ok (.iload 10, 2) := by decide +kernel
theorem dL_told_159 : decode cL_told 159 = .ok (.iconst 4, 1) := by decide +kernel
theorem dL_told_160 : decode cL_told 160 = .ok (.if_icmp .ge 105, 3) := by decide +kernel
theorem dL_told_163 : decode cL_told 163 = .ok (.iload 8, 2) := by decide +kernel
theorem dL_told_165 : decode cL_told 165 = .ok (.ifCond .eq 100, 3) := by decide +kernel
theorem dL_told_168 : decode cL_told 168 = .ok (.aload_n 2, 1) := by decide +kernel
theorem dL_told_169 : decode cL_told 169 = .ok (.iload_n 3, 1) := by decide +kernel
theorem dL_told_170 : decode cL_told 170 = .ok (.iconst 2, 1) := by decide +kernel
theorem dL_told_171 : decode cL_told 171 = .ok (.iadd, 1) := by decide +kernel
theorem dL_told_172 : decode cL_told 172 = .ok (.invokestatic 121, 3) := by decide +kernel
theorem dL_told_175 : decode cL_told 175 = .ok (.iconst 1, 1) := by decide +kernel
theorem dL_told_176 : decode cL_told 176 = .ok (.bipush 7, 2) := by decide +kernel
theorem dL_told_178 : decode cL_told 178 = .ok (.iload 10, 2) := by decide +kernel
theorem dL_told_180 : decode cL_told 180 = .ok (.imul, 1) := by decide +kernel
theorem dL_told_181 : decode cL_told 181 = .ok (.iadd, 1) := by decide +kernel
theorem dL_told_182 : decode cL_told 182 = .ok (.idiv, 1) := by decide +kernel
theorem dL_told_183 : decode cL_told 183 = .ok (.sipush 300, 3) := by decide +kernel
theorem dL_told_186 : decode cL_told 186 = .ok (.irem, 1) := by decide +kernel
theorem dL_told_187 : decode cL_told 187 = .ok (.istore 11, 2) := by decide +kernel
theorem dL_told_189 : decode cL_told 189 = .ok (.aload_n 0, 1) := by decide +kernel
theorem dL_told_190 : decode cL_told 190 = .ok (.aload_n 1, 1) := by decide +kernel
theorem dL_told_191 : decode cL_told 191 = .ok (.bipush 97, 2) := by decide +kernel
theorem dL_told_193 : decode cL_told 193 = .ok (.invokestatic 117, 3) := by decide +kernel
theorem dL_told_196 : decode cL_told 196 = .ok (.ifCond .eq 57, 3) := by decide +kernel
theorem dL_told_199 : decode cL_told 199 = .ok (.aload_n 0, 1) := by decide +kernel
theorem dL_told_200 : decode cL_told 200 = .ok (.aload_n 1, 1) := by decide +kernel
theorem dL_told_201 : decode cL_told 201 = .ok (.iload 11, 2) := by decide +kernel
theorem dL_told_203 : decode cL_told 203 = .ok (.bipush 60, 2) := by decide +kernel
theorem dL_told_205 : decode cL_told 205 = .ok (.idiv, 1) := by decide +kernel
theorem dL_told_206 : decode cL_told 206 = .ok (.bipush 10, 2) := by decide +kernel
theorem dL_told_208 : decode cL_told 208 = .ok (.invokestatic 134, 3) := by decide +kernel
theorem dL_told_211 : decode cL_told 211 = .ok (.ifCond .eq 42, 3) := by decide +kernel
theorem dL_told_214 : decode cL_told 214 = .ok (.aload_n 0, 1) := by decide +kernel
theorem dL_told_215 : decode cL_told 215 = .ok (.invokevirtual 128, 3) := by decide +kernel
theorem dL_told_218 : decode cL_told 218 = .ok (.iload 9, 2) := by decide +kernel
theorem dL_told_220 : decode cL_told 220 = .ok (.iconst 3, 1) := by decide +kernel
theorem dL_told_221 : decode cL_told 221 = .ok (.iadd, 1) := by decide +kernel
theorem dL_told_222 : decode cL_told 222 = .ok (.if_icmp .ne 31, 3) := by decide +kernel
theorem dL_told_225 : decode cL_told 225 = .ok (.aload_n 0, 1) := by decide +kernel
theorem dL_told_226 : decode cL_told 226 = .ok (.aload_n 1, 1) := by decide +kernel
theorem dL_told_227 : decode cL_told 227 = .ok (.iload 11, 2) := by decide +kernel
theorem dL_told_229 : decode cL_told 229 = .ok (.bipush 60, 2) := by decide +kernel
theorem dL_told_231 : decode cL_told 231 = .ok (.irem, 1) := by decide +kernel
theorem dL_told_232 : decode cL_told 232 = .ok (.bipush 10, 2) := by decide +kernel
theorem dL_told_234 : decode cL_told 234 = .ok (.invokestatic 134, 3) := by decide +kernel
theorem dL_told_237 : decode cL_told 237 = .ok (.ifCond .eq 16, 3) := by decide +kernel
theorem dL_told_240 : decode cL_told 240 = .ok (.aload_n 0, 1) := by decide +kernel
theorem dL_told_241 : decode cL_told 241 = .ok (.invokevirtual 128, 3) := by decide +kernel
theorem dL_told_244 : decode cL_told 244 = .ok (.ldc 138, 2) := by decide +kernel
theorem dL_told_246 : decode cL_told 246 = .ok (.if_icmp .ne 7, 3) := by decide +kernel
theorem dL_told_249 : decode cL_told 249 = .ok (.iconst 1, 1) := by decide +kernel
theorem dL_told_250 : decode cL_told 250 = .ok (.goto 4, 3) := by decide +kernel
theorem dL_told_253 : decode cL_told 253 = .ok (.iconst 0, 1) := by decide +kernel
theorem dL_told_254 : decode cL_told 254 = .ok (.istore 8, 2) := by decide +kernel
theorem dL_told_256 : decode cL_told 256 = .ok (.iinc 9 5, 3) := by decide +kernel
theorem dL_told_259 : decode cL_told 259 = .ok (.iinc 10 1, 3) := by decide +kernel
theorem dL_told_262 : decode cL_told 262 = .ok (.goto (-105), 3) := by decide +kernel
theorem dL_told_265 : decode cL_told 265 = .ok (.aload_n 2, 1) := by decide +kernel
theorem dL_told_266 : decode cL_told 266 = .ok (.iload_n 3, 1) := by decide +kernel
theorem dL_told_267 : decode cL_told 267 = .ok (.iconst 3, 1) := by decide +kernel
theorem dL_told_268 : decode cL_told 268 = .ok (.iadd, 1) := by decide +kernel
theorem dL_told_269 : decode cL_told 269 = .ok (.invokestatic 121, 3) := by decide +kernel
theorem dL_told_272 : decode cL_told 272 = .ok (.bipush 8, 2) := by decide +kernel
theorem dL_told_274 : decode cL_told 274 = .ok (.irem, 1) := by decide +kernel
theorem dL_told_275 : decode cL_told 275 = .ok (.istore 10, 2) := by decide +kernel
theorem dL_told_277 : decode cL_told 277 = .ok (.iload 8, 2) := by decide +kernel
theorem dL_told_279 : decode cL_told 279 = .ok (.ifCond .eq 121, 3) := by decide +kernel
theorem dL_told_282 : decode cL_told 282 = .ok (.aload_n 0, 1) := by decide +kernel
theorem dL_told_283 : decode cL_told 283 = .ok (.aload_n 1, 1) := by decide +kernel
theorem dL_told_284 : decode cL_told 284 = .ok (.bipush 112, 2) := by decide +kernel
theorem dL_told_286 : decode cL_told 286 = .ok (.invokestatic 117, 3) := by decide +kernel
theorem dL_told_289 : decode cL_told 289 = .ok (.ifCond .eq 111, 3) := by decide +kernel
theorem dL_told_292 : decode cL_told 292 = .ok (.aload_n 0, 1) := by decide +kernel
theorem dL_told_293 : decode cL_told 293 = .ok (.aload_n 1, 1) := by decide +kernel
theorem dL_told_294 : decode cL_told 294 = .ok (.bipush 50, 2) := by decide +kernel
theorem dL_told_296 : decode cL_told 296 = .ok (.invokestatic 117, 3) := by decide +kernel
theorem dL_told_299 : decode cL_told 299 = .ok (.ifCond .eq 101, 3) := by decide +kernel
theorem dL_told_302 : decode cL_told 302 = .ok (.aload_n 0, 1) := by decide +kernel
theorem dL_told_303 : decode cL_told 303 = .ok (.invokevirtual 128, 3) := by decide +kernel
theorem dL_told_306 : decode cL_told 306 = .ok (.ldc 138, 2) := by decide +kernel
theorem dL_told_308 : decode cL_told 308 = .ok (.if_icmp .ne 92, 3) := by decide +kernel
theorem dL_told_311 : decode cL_told 311 = .ok (.aload_n 0, 1) := by decide +kernel
theorem dL_told_312 : decode cL_told 312 = .ok (.aload_n 1, 1) := by decide +kernel
theorem dL_told_313 : decode cL_told 313 = .ok (.bipush 114, 2) := by decide +kernel
theorem dL_told_315 : decode cL_told 315 = .ok (.invokestatic 117, 3) := by decide +kernel
theorem dL_told_318 : decode cL_told 318 = .ok (.ifCond .eq 82, 3) := by decide +kernel
theorem dL_told_321 : decode cL_told 321 = .ok (.aload_n 0, 1) := by decide +kernel
theorem dL_told_322 : decode cL_told 322 = .ok (.aload_n 1, 1) := by decide +kernel
theorem dL_told_323 : decode cL_told 323 = .ok (.bipush 48, 2) := by decide +kernel
theorem dL_told_325 : decode cL_told 325 = .ok (.iload 10, 2) := by decide +kernel
theorem dL_told_327 : decode cL_told 327 = .ok (.iadd, 1) := by decide +kernel
theorem dL_told_328 : decode cL_told 328 = .ok (.invokestatic 117, 3) := by decide +kernel
theorem dL_told_331 : decode cL_told 331 = .ok (.ifCond .eq 69, 3) := by decide +kernel
theorem dL_told_334 : decode cL_told 334 = .ok (.aload_n 0, 1) := by decide +kernel
theorem dL_told_335 : decode cL_told 335 = .ok (.invokevirtual 128, 3) := by decide +kernel
theorem dL_told_338 : decode cL_told 338 = .ok (.iload 9, 2) := by decide +kernel
theorem dL_told_340 : decode cL_told 340 = .ok (.iconst 4, 1) := by decide +kernel
theorem dL_told_341 : decode cL_told 341 = .ok (.iadd, 1) := by decide +kernel
theorem dL_told_342 : decode cL_told 342 = .ok (.if_icmp .ne 58, 3) := by decide +kernel
theorem dL_told_345 : decode cL_told 345 = .ok (.aload_n 0, 1) := by decide +kernel
theorem dL_told_346 : decode cL_told 346 = .ok (.aload_n 1, 1) := by decide +kernel
theorem dL_told_347 : decode cL_told 347 = .ok (.sipush 255, 3) := by decide +kernel
theorem dL_told_350 : decode cL_told 350 = .ok (.bipush 100, 2) := by decide +kernel
theorem dL_told_352 : decode cL_told 352 = .ok (.invokestatic 134, 3) := by decide +kernel
theorem dL_told_355 : decode cL_told 355 = .ok (.ifCond .eq 45, 3) := by decide +kernel
theorem dL_told_358 : decode cL_told 358 = .ok (.aload_n 0, 1) := by decide +kernel
theorem dL_told_359 : decode cL_told 359 = .ok (.invokevirtual 128, 3) := by decide +kernel
theorem dL_told_362 : decode cL_told 362 = .ok (.ldc 138, 2) := by decide +kernel
theorem dL_told_364 : decode cL_told 364 = .ok (.if_icmp .ne 36, 3) := by decide +kernel
theorem dL_told_367 : decode cL_told 367 = .ok (.aload_n 0, 1) := by decide +kernel
theorem dL_told_368 : decode cL_told 368 = .ok (.aload_n 1, 1) := by decide +kernel
theorem dL_told_369 : decode cL_told 369 = .ok (.bipush 112, 2) := by decide +kernel
theorem dL_told_371 : decode cL_told 371 = .ok (.invokestatic 117, 3) := by decide +kernel
theorem dL_told_374 : decode cL_told 374 = .ok (.ifCond .eq 26, 3) := by decide +kernel
theorem dL_told_377 : decode cL_told 377 = .ok (.aload_n 0, 1) := by decide +kernel
theorem dL_told_378 : decode cL_told 378 = .ok (.aload_n 1, 1) := by decide +kernel
theorem dL_told_379 : decode cL_told 379 = .ok (.bipush 48, 2) := by decide +kernel
theorem dL_told_381 : decode cL_told 381 = .ok (.invokestatic 117, 3) := by decide +kernel
theorem dL_told_384 : decode cL_told 384 = .ok (.ifCond .eq 16, 3) := by decide +kernel
theorem dL_told_387 : decode cL_told 387 = .ok (.aload_n 0, 1) := by decide +kernel
theorem dL_told_388 : decode cL_told 388 = .ok (.invokevirtual 128, 3) := by decide +kernel
theorem dL_told_391 : decode cL_told 391 = .ok (.ldc 138, 2) := by decide +kernel
theorem dL_told_393 : decode cL_told 393 = .ok (.if_icmp .ne 7, 3) := by decide +kernel
theorem dL_told_396 : decode cL_told 396 = .ok (.iconst 1, 1) := by decide +kernel
theorem dL_told_397 : decode cL_told 397 = .ok (.goto 4, 3) := by decide +kernel
theorem dL_told_400 : decode cL_told 400 = .ok (.iconst 0, 1) := by decide +kernel
theorem dL_told_401 : decode cL_told 401 = .ok (.istore 8, 2) := by decide +kernel
theorem dL_told_403 : decode cL_told 403 = .ok (.iinc 9 9, 3) := by decide +kernel
theorem dL_told_406 : decode cL_told 406 = .ok (.iload 8, 2) := by decide +kernel
theorem dL_told_408 : decode cL_told 408 = .ok (.ifCond .eq 205, 3) := by decide +kernel
theorem dL_told_411 : decode cL_told 411 = .ok (.aload_n 0, 1) := by decide +kernel
theorem dL_told_412 : decode cL_told 412 = .ok (.invokestatic 139, 3) := by decide +kernel
theorem dL_told_415 : decode cL_told 415 = .ok (.iconst 4, 1) := by decide +kernel
theorem dL_told_416 : decode cL_told 416 = .ok (.if_icmp .ne 197, 3) := by decide +kernel
theorem dL_told_419 : decode cL_told 419 = .ok (.aload_n 1, 1) := by decide +kernel
theorem dL_told_420 : decode cL_told 420 = .ok (.invokestatic 139, 3) := by decide +kernel
theorem dL_told_423 : decode cL_told 423 = .ok (.iconst 4, 1) := by decide +kernel
theorem dL_told_424 : decode cL_told 424 = .ok (.if_icmp .ne 189, 3) := by decide +kernel
theorem dL_told_427 : decode cL_told 427 = .ok (.aload_n 0, 1) := by decide +kernel
theorem dL_told_428 : decode cL_told 428 = .ok (.iconst 3, 1) := by decide +kernel
theorem dL_told_429 : decode cL_told 429 = .ok (.invokestatic 143, 3) := by decide +kernel
theorem dL_told_432 : decode cL_told 432 = .ok (.iload 6, 2) := by decide +kernel
theorem dL_told_434 : decode cL_told 434 = .ok (.if_icmp .ne 179, 3) := by decide +kernel
theorem dL_told_437 : decode cL_told 437 = .ok (.aload_n 0, 1) := by decide +kernel
theorem dL_told_438 : decode cL_told 438 = .ok (.bipush 8, 2) := by decide +kernel
theorem dL_told_440 : decode cL_told 440 = .ok (.invokestatic 143, 3) := by decide +kernel
theorem dL_told_443 : decode cL_told 443 = .ok (.iload 7, 2) := by decide +kernel
theorem dL_told_445 : decode cL_told 445 = .ok (.if_icmp .ne 168, 3) := by decide +kernel
theorem dL_told_448 : decode cL_told 448 = .ok (.aload_n 0, 1) := by decide +kernel
theorem dL_told_449 : decode cL_told 449 = .ok (.bipush 9, 2) := by decide +kernel
theorem dL_told_451 : decode cL_told 451 = .ok (.invokestatic 143, 3) := by decide +kernel
theorem dL_told_454 : decode cL_told 454 = .ok (.ifCond .ne 159, 3) := by decide +kernel
theorem dL_told_457 : decode cL_told 457 = .ok (.aload_n 0, 1) := by decide +kernel
theorem dL_told_458 : decode cL_told 458 = .ok (.iconst 1, 1) := by decide +kernel
theorem dL_told_459 : decode cL_told 459 = .ok (.invokestatic 143, 3) := by decide +kernel
theorem dL_told_462 : decode cL_told 462 = .ok (.ifCond .ne 151, 3) := by decide +kernel
theorem dL_told_465 : decode cL_told 465 = .ok (.aload_n 0, 1) := by decide +kernel
theorem dL_told_466 : decode cL_told 466 = .ok (.iload 10, 2) := by decide +kernel
theorem dL_told_468 : decode cL_told 468 = .ok (.invokestatic 146, 3) := by decide +kernel
theorem dL_told_471 : decode cL_told 471 = .ok (.sipush 255, 3) := by decide +kernel
theorem dL_told_474 : decode cL_told 474 = .ok (.if_icmp .ne 139, 3) := by decide +kernel
theorem dL_told_477 : decode cL_told 477 = .ok (.aload_n 0, 1) := by decide +kernel
theorem dL_told_478 : decode cL_told 478 = .ok (.iconst 0, 1) := by decide +kernel
theorem dL_told_479 : decode cL_told 479 = .ok (.invokestatic 149, 3) := by decide +kernel
theorem dL_told_482 : decode cL_told 482 = .ok (.iconst 1, 1) := by decide +kernel
theorem dL_told_483 : decode cL_told 483 = .ok (.if_icmp .ne 130, 3) := by decide +kernel
theorem dL_told_486 : decode cL_told 486 = .ok (.aload_n 0, 1) := by decide +kernel
theorem dL_told_487 : decode cL_told 487 = .ok (.iconst 1, 1) := by decide +kernel
theorem dL_told_488 : decode cL_told 488 = .ok (.invokestatic 149, 3) := by decide +kernel
theorem dL_told_491 : decode cL_told 491 = .ok (.ifCond .ne 122, 3) := by decide +kernel
theorem dL_told_494 : decode cL_told 494 = .ok (.aload_n 0, 1) := by decide +kernel
theorem dL_told_495 : decode cL_told 495 = .ok (.iconst 2, 1) := by decide +kernel
theorem dL_told_496 : decode cL_told 496 = .ok (.invokestatic 149, 3) := by decide +kernel
theorem dL_told_499 : decode cL_told 499 = .ok (.iconst 1, 1) := by decide +kernel
theorem dL_told_500 : decode cL_told 500 = .ok (.if_icmp .ne 113, 3) := by decide +kernel
theorem dL_told_503 : decode cL_told 503 = .ok (.aload_n 0, 1) := by decide +kernel
theorem dL_told_504 : decode cL_told 504 = .ok (.invokestatic 152, 3) := by decide +kernel
theorem dL_told_507 : decode cL_told 507 = .ok (.ldc 18, 2) := by decide +kernel
theorem dL_told_509 : decode cL_told 509 = .ok (.if_icmp .ne 104, 3) := by decide +kernel
theorem dL_told_512 : decode cL_told 512 = .ok (.aload_n 1, 1) := by decide +kernel
theorem dL_told_513 : decode cL_told 513 = .ok (.iconst 1, 1) := by decide +kernel
theorem dL_told_514 : decode cL_told 514 = .ok (.invokestatic 155, 3) := by decide +kernel
theorem dL_told_517 : decode cL_told 517 = .ok (.ldc 18, 2) := by decide +kernel
theorem dL_told_519 : decode cL_told 519 = .ok (.if_icmp .ne 94, 3) := by decide +kernel
theorem dL_told_522 : decode cL_told 522 = .ok (.aload_n 0, 1) := by decide +kernel
theorem dL_told_523 : decode cL_told 523 = .ok (.aload_n 1, 1) := by decide +kernel
theorem dL_told_524 : decode cL_told 524 = .ok (.bipush 112, 2) := by decide +kernel
theorem dL_told_526 : decode cL_told 526 = .ok (.invokestatic 117, 3) := by decide +kernel
theorem dL_told_529 : decode cL_told 529 = .ok (.ifCond .eq 84, 3) := by decide +kernel
theorem dL_told_532 : decode cL_told 532 = .ok (.aload_n 0, 1) := by decide +kernel
theorem dL_told_533 : decode cL_told 533 = .ok (.aload_n 1, 1) := by decide +kernel
theorem dL_told_534 : decode cL_told 534 = .ok (.bipush 50, 2) := by decide +kernel
theorem dL_told_536 : decode cL_told 536 = .ok (.invokestatic 117, 3) := by decide +kernel
theorem dL_told_539 : decode cL_told 539 = .ok (.ifCond .eq 74, 3) := by decide +kernel
theorem dL_told_542 : decode cL_told 542 = .ok (.aload_n 0, 1) := by decide +kernel
theorem dL_told_543 : decode cL_told 543 = .ok (.invokevirtual 128, 3) := by decide +kernel
theorem dL_told_546 : decode cL_told 546 = .ok (.iload 9, 2) := by decide +kernel
theorem dL_told_548 : decode cL_told 548 = .ok (.iconst 1, 1) := by decide +kernel
theorem dL_told_549 : decode cL_told 549 = .ok (.iadd, 1) := by decide +kernel
theorem dL_told_550 : decode cL_told 550 = .ok (.if_icmp .ne 63, 3) := by decide +kernel
theorem dL_told_553 : decode cL_told 553 = .ok (.aload_n 0, 1) := by decide +kernel
theorem dL_told_554 : decode cL_told 554 = .ok (.invokestatic 139, 3) := by decide +kernel
theorem dL_told_557 : decode cL_told 557 = .ok (.ldc 18, 2) := by decide +kernel
theorem dL_told_559 : decode cL_told 559 = .ok (.if_icmp .ne 54, 3) := by decide +kernel
theorem dL_told_562 : decode cL_told 562 = .ok (.aload_n 0, 1) := by decide +kernel
theorem dL_told_563 : decode cL_told 563 = .ok (.invokevirtual 125, 3) := by decide +kernel
theorem dL_told_566 : decode cL_told 566 = .ok (.iload 9, 2) := by decide +kernel
theorem dL_told_568 : decode cL_told 568 = .ok (.iconst 2, 1) := by decide +kernel
theorem dL_told_569 : decode cL_told 569 = .ok (.iadd, 1) := by decide +kernel
theorem dL_told_570 : decode cL_told 570 = .ok (.if_icmp .ne 43, 3) := by decide +kernel
theorem dL_told_573 : decode cL_told 573 = .ok (.aload_n 0, 1) := by decide +kernel
theorem dL_told_574 : decode cL_told 574 = .ok (.aload_n 1, 1) := by decide +kernel
theorem dL_told_575 : decode cL_told 575 = .ok (.bipush 120, 2) := by decide +kernel
theorem dL_told_577 : decode cL_told 577 = .ok (.invokestatic 117, 3) := by decide +kernel
theorem dL_told_580 : decode cL_told 580 = .ok (.ifCond .eq 33, 3) := by decide +kernel
theorem dL_told_583 : decode cL_told 583 = .ok (.aload_n 0, 1) := by decide +kernel
theorem dL_told_584 : decode cL_told 584 = .ok (.invokevirtual 128, 3) := by decide +kernel
theorem dL_told_587 : decode cL_told 587 = .ok (.ifCond .ne 26, 3) := by decide +kernel
theorem dL_told_590 : decode cL_told 590 = .ok (.aload_n 1, 1) := by decide +kernel
theorem dL_told_591 : decode cL_told 591 = .ok (.invokevirtual 125, 3) := by decide +kernel
theorem dL_told_594 : decode cL_told 594 = .ok (.iload 9, 2) := by decide +kernel
theorem dL_told_596 : decode cL_told 596 = .ok (.iconst 3, 1) := by decide +kernel
theorem dL_told_597 : decode cL_told 597 = .ok (.iadd, 1) := by decide +kernel
theorem dL_told_598 : decode cL_told 598 = .ok (.if_icmp .ne 15, 3) := by decide +kernel
theorem dL_told_601 : decode cL_told 601 = .ok (.aload_n 0, 1) := by decide +kernel
theorem dL_told_602 : decode cL_told 602 = .ok (.invokevirtual 125, 3) := by decide +kernel
theorem dL_told_605 : decode cL_told 605 = .ok (.iconst 1, 1) := by decide +kernel
theorem dL_told_606 : decode cL_told 606 = .ok (.if_icmp .ne 7, 3) := by decide +kernel
theorem dL_told_609 : decode cL_told 609 = .ok (.iconst 1, 1) := by decide +kernel
theorem dL_told_610 : decode cL_told 610 = .ok (.goto 4, 3) := by decide +kernel
theorem dL_told_613 : decode cL_told 613 = .ok (.iconst 0, 1) := by decide +kernel
theorem dL_told_614 : decode cL_told 614 = .ok (.ireturn, 1) := by decide +kernel
set_option maxRecDepth 20000 in
theorem ggL_alike_L_tryAbout : GoodIn wsL_alike wsL_tryAbout := goodIn_ca (goodIn_r _ [4, 5, 6, 7, 8, 9, 10, 11, 12, 13, 14, 15, 16, 17, 18, 19, 20, 21, 22, 23, 24, 25, 26, 27, 28, 29, 30, 31, 32, 33, 34, 35, 36, 37, 38, 39, 40, 41, 42, 43, 44, 45, 46, 47, 48, 49, 50, 51, 52, 53, 54, 55, 56, 57, 58, 59, 60, 61, 62, 63, 64, 65, 128, 129, 130, 131, 132, 133, 134, 135, 136, 137, 138, 139, 140, 141, 142, 143, 144, 145, 146, 147, 148, 149, 150, 151, 152, 153, 154, 155, 156, 157, 158] rfl (by decide +kernel)) (goodIn_sub (fun _ h => List.mem_cons_of_mem _ (List.mem_append_left _ (List.mem_append_right _ h))) (by decide +kernel))
set_option maxRecDepth 20000 in
theorem gL_alike_L_tryAbout : GoodIn wsL_alike (va_wsS RL 143 yL_tryAbout wsL_tryAbout) := goodIn_app (goodIn_of _ (by decide +kernel)) ggL_alike_L_tryAbout
set_option maxRecDepth 20000 in
theorem ggL_alike_L_account : GoodIn wsL_alike wsL_account := goodIn_ca (goodIn_r _ [68, 5, 69, 70, 71, 72, 10, 73, 12, 74, 75, 76, 77, 78, 13, 14, 15, 16, 17, 128, 129, 130, 131, 132, 133, 134, 135, 136, 137, 138, 146, 147, 148, 149, 139, 140, 141, 142, 143, 144, 145] rfl (by decide +kernel)) (goodIn_sub (fun _ h => List.mem_cons_of_mem _ (List.mem_append_left _ (List.mem_append_right _ h))) (by decide +kernel))
set_option maxRecDepth 20000 in
theorem gL_alike_L_account : GoodIn wsL_alike (va_wsS RL 158 yL_account wsL_account) := goodIn_app (goodIn_of _ (by decide +kernel)) ggL_alike_L_account
set_option maxRecDepth 20000 in
theorem ggL_alike_L_tryRegister : GoodIn wsL_alike wsL_tryRegister := goodIn_ca (goodIn_r _ [81, 82, 83, 84, 85, 86, 10, 87, 12, 88, 89, 90, 91, 92, 93, 128, 129, 130, 131, 132, 133, 134, 135, 136, 137, 138] rfl (by decide +kernel)) (goodIn_sub (fun _ h => List.mem_cons_of_mem _ (List.mem_append_right _ h)) (by decide +kernel))
set_option maxRecDepth 20000 in
theorem gL_alike_L_tryRegister : GoodIn wsL_alike (va_wsS RL 146 yL_tryRegister wsL_tryRegister) := goodIn_app (goodIn_of _ (by decide +kernel)) ggL_alike_L_tryRegister
set_option maxRecDepth 20000 in
theorem ggL_alike_L_tryAlarm : GoodIn wsL_alike wsL_tryAlarm := goodIn_ca (goodIn_ca (goodIn_r _ [96, 82, 5, 83, 6, 97, 98, 99, 10, 100, 12, 101, 89, 90, 91, 92, 93, 13, 14, 15, 16, 17, 102, 59, 60, 61, 62, 63, 64, 65, 128, 129, 130, 131, 132, 133, 134, 135, 136, 137, 138, 156, 157, 158] rfl (by decide +kernel)) (goodIn_sub (fun _ h => List.mem_cons_of_mem _ (List.mem_append_right _ h)) (by decide +kernel))) (goodIn_sub (fun _ h => List.mem_cons_of_mem _ (List.mem_append_left _ (List.mem_append_right _ h))) (by decide +kernel))
set_option maxRecDepth 20000 in
theorem gL_alike_L_tryAlarm : GoodIn wsL_alike (va_wsS RL 161 yL_tryAlarm wsL_tryAlarm) := goodIn_app (goodIn_of _ (by decide +kernel)) ggL_alike_L_tryAlarm
set_option maxRecDepth 20000 in
theorem ggL_alike_L_tryIsGuarded : GoodIn wsL_alike wsL_tryIsGuarded := goodIn_ca (goodIn_r _ [105, 82, 83, 106, 107, 108, 10, 109, 12, 110, 111, 89, 90, 91, 92, 93, 128, 129, 130, 131, 132, 133, 134, 135, 136, 137, 138, 150, 151, 152, 153, 154, 155] rfl (by decide +kernel)) (goodIn_sub (fun _ h => List.mem_cons_of_mem _ (List.mem_append_right _ h)) (by decide +kernel))
set_option maxRecDepth 20000 in
theorem gL_alike_L_tryIsGuarded : GoodIn wsL_alike (va_wsS RL 149 yL_tryIsGuarded wsL_tryIsGuarded) := goodIn_app (goodIn_of _ (by decide +kernel)) ggL_alike_L_tryIsGuarded
set_option maxRecDepth 20000 in
theorem ggL_alike_L_tryRow : GoodIn wsL_alike wsL_tryRow := goodIn_ca (goodIn_ca (goodIn_r _ [114, 82, 5, 83, 6, 115, 116, 117, 10, 118, 12, 110, 119, 89, 90, 91, 92, 93, 13, 14, 15, 16, 17, 120, 121, 122, 123, 124, 125, 126, 127, 128, 129, 130, 131, 132, 133, 134, 135, 136, 137, 138, 150, 151, 152, 153, 154, 155] rfl (by decide +kernel)) (goodIn_sub (fun _ h => List.mem_cons_of_mem _ (List.mem_append_right _ h)) (by decide +kernel))) (goodIn_sub (fun _ h => List.mem_cons_of_mem _ (List.mem_append_left _ (List.mem_append_right _ h))) (by decide +kernel))
set_option maxRecDepth 20000 in
theorem gL_alike_L_tryRow : GoodIn wsL_alike (va_wsS RL 165 yL_tryRow wsL_tryRow) := goodIn_app (goodIn_of _ (by decide +kernel)) ggL_alike_L_tryRow
theorem dL_alike_0 : decode cL_alike 0 = .ok (.iconst 1, 1) := by decide +kernel
theorem dL_alike_1 : decode cL_alike 1 = .ok (.istore_n 2, 1) := by decide +kernel
theorem dL_alike_2 : decode cL_alike 2 = .ok (.iconst 0, 1) := by decide +kernel
theorem dL_alike_3 : decode cL_alike 3 = .ok (.istore_n 3, 1) := by decide +kernel
theorem dL_alike_4 : decode cL_alike 4 = .ok (.iload_n 3, 1) := by decide +kernel
theorem dL_alike_5 : decode cL_alike 5 = .ok (.bipush 15, 2) := by decide +kernel
theorem dL_alike_7 : decode cL_alike 7 = .ok (.if_icmp .ge 117, 3) := by decide +kernel
theorem dL_alike_10 : decode cL_alike 10 = .ok (.iload_n 2, 1) := by decide +kernel
theorem dL_alike_11 : decode cL_alike 11 = .ok (.ifCond .eq 105, 3) := by decide +kernel
theorem dL_alike_14 : decode cL_alike 14 = .ok (.aload_n 0, 1) := by decide +kernel
theorem dL_alike_15 : decode cL_alike 15 = .ok (.iload_n 3, 1) := by decide +kernel
theorem dL_alike_16 : decode cL_alike 16 = .ok (.invokestatic 143, 3) := by decide +kernel
theorem dL_alike_19 : decode cL_alike 19 = .ok (.aload_n 1, 1) := by decide +kernel
theorem dL_alike_20 : decode cL_alike 20 = .ok (.iload_n 3, 1) := by decide +kernel
theorem dL_alike_21 : decode cL_alike 21 = .ok (.invokestatic 143, 3) := by decide +kernel
theorem dL_alike_24 : decode cL_alike 24 = .ok (.if_icmp .ne 92, 3) := by decide +kernel
theorem dL_alike_27 : decode cL_alike 27 = .ok (.iload_n 3, 1) := by decide +kernel
theorem dL_alike_28 : decode cL_alike 28 = .ok (.iconst 5, 1) := by decide +kernel
theorem dL_alike_29 : decode cL_alike 29 = .ok (.if_icmp .gt 17, 3) := by decide +kernel
theorem dL_alike_32 : decode cL_alike 32 = .ok (.aload_n 0, 1) := by decide +kernel
theorem dL_alike_33 : decode cL_alike 33 = .ok (.iload_n 3, 1) := by decide +kernel
theorem dL_alike_34 : decode cL_alike 34 = .ok (.invokestatic 158, 3) := by decide +kernel
theorem dL_alike_37 : decode cL_alike 37 = .ok (.aload_n 1, 1) := by decide +kernel
theorem dL_alike_38 : decode cL_alike 38 = .ok (.iload_n 3, 1) := by decide +kernel
theorem dL_alike_39 : decode cL_alike 39 = .ok (.invokestatic 158, 3) := by decide +kernel
theorem dL_alike_42 : decode cL_alike 42 = .ok (.lcmp, 1) := by decide +kernel
theorem dL_alike_43 : decode cL_alike 43 = .ok (.ifCond .ne 73, 3) := by decide +kernel
theorem dL_alike_46 : decode cL_alike 46 = .ok (.iload_n 3, 1) := by decide +kernel
theorem dL_alike_47 : decode cL_alike 47 = .ok (.bipush 7, 2) := by decide +kernel
theorem dL_alike_49 : decode cL_alike 49 = .ok (.if_icmp .gt 16, 3) := by decide +kernel
theorem dL_alike_52 : decode cL_alike 52 = .ok (.aload_n 0, 1) := by decide +kernel
theorem dL_alike_53 : decode cL_alike 53 = .ok (.iload_n 3, 1) := by decide +kernel
theorem dL_alike_54 : decode cL_alike 54 = .ok (.invokestatic 146, 3) := by decide +kernel
theorem dL_alike_57 : decode cL_alike 57 = .ok (.aload_n 1, 1) := by decide +kernel
theorem dL_alike_58 : decode cL_alike 58 = .ok (.iload_n 3, 1) := by decide +kernel
theorem dL_alike_59 : decode cL_alike 59 = .ok (.invokestatic 146, 3) := by decide +kernel
theorem dL_alike_62 : decode cL_alike 62 = .ok (.if_icmp .ne 54, 3) := by decide +kernel
theorem dL_alike_65 : decode cL_alike 65 = .ok (.iload_n 3, 1) := by decide +kernel
theorem dL_alike_66 : decode cL_alike 66 = .ok (.bipush 11, 2) := by decide +kernel
theorem dL_alike_68 : decode cL_alike 68 = .ok (.if_icmp .gt 26, 3) := by decide +kernel
theorem dL_alike_71 : decode cL_alike 71 = .ok (.aload_n 0, 1) := by decide +kernel
theorem dL_alike_72 : decode cL_alike 72 = .ok (.iload_n 3, 1) := by decide +kernel
theorem dL_alike_73 : decode cL_alike 73 = .ok (.iconst 3, 1) := by decide +kernel
theorem dL_alike_74 : decode cL_alike 74 = .ok (.idiv, 1) := by decide +kernel
theorem dL_alike_75 : decode cL_alike 75 = .ok (.iload_n 3, 1) := by decide +kernel
theorem dL_alike_76 : decode cL_alike 76 = .ok (.iconst 3, 1) := by decide +kernel
theorem dL_alike_77 : decode cL_alike 77 = .ok (.irem, 1) := by decide +kernel
theorem dL_alike_78 : decode cL_alike 78 = .ok (.invokestatic 161, 3) := by decide +kernel
theorem dL_alike_81 : decode cL_alike 81 = .ok (.aload_n 1, 1) := by decide +kernel
theorem dL_alike_82 : decode cL_alike 82 = .ok (.iload_n 3, 1) := by decide +kernel
theorem dL_alike_83 : decode cL_alike 83 = .ok (.iconst 3, 1) := by decide +kernel
theorem dL_alike_84 : decode cL_alike 84 = .ok (.idiv, 1) := by decide +kernel
theorem dL_alike_85 : decode cL_alike 85 = .ok (.iload_n 3, 1) := by decide +kernel
theorem dL_alike_86 : decode cL_alike 86 = .ok (.iconst 3, 1) := by decide +kernel
theorem dL_alike_87 : decode cL_alike 87 = .ok (.irem, 1) := by decide +kernel
theorem dL_alike_88 : decode cL_alike 88 = .ok (.invokestatic 161, 3) := by decide +kernel
theorem dL_alike_91 : decode cL_alike 91 = .ok (.if_icmp .ne 25, 3) := by decide +kernel
theorem dL_alike_94 : decode cL_alike 94 = .ok (.iload_n 3, 1) := by decide +kernel
theorem dL_alike_95 : decode cL_alike 95 = .ok (.iconst 2, 1) := by decide +kernel
theorem dL_alike_96 : decode cL_alike 96 = .ok (.if_icmp .gt 16, 3) := by decide +kernel
theorem dL_alike_99 : decode cL_alike 99 = .ok (.aload_n 0, 1) := by decide +kernel
theorem dL_alike_100 : decode cL_alike 100 = .ok (.iload_n 3, 1) := by decide +kernel
theorem dL_alike_101 : decode cL_alike 101 = .ok (.invokestatic 149, 3) := by decide +kernel
theorem dL_alike_104 : decode cL_alike 104 = .ok (.aload_n 1, 1) := by decide +kernel
theorem dL_alike_105 : decode cL_alike 105 = .ok (.iload_n 3, 1) := by decide +kernel
theorem dL_alike_106 : decode cL_alike 106 = .ok (.invokestatic 149, 3) := by decide +kernel
theorem dL_alike_109 : decode cL_alike 109 = .ok (.if_icmp .ne 7, 3) := by decide +kernel
theorem dL_alike_112 : decode cL_alike 112 = .ok (.iconst 1, 1) := by decide +kernel
theorem dL_alike_113 : decode cL_alike 113 = .ok (.goto 4, 3) := by decide +kernel
theorem dL_alike_116 : decode cL_alike 116 = .ok (.iconst 0, 1) := by decide +kernel
theorem dL_alike_117 : decode cL_alike 117 = .ok (.istore_n 2, 1) := by decide +kernel
theorem dL_alike_118 : decode cL_alike 118 = .ok (.iinc 3 1, 3) := by decide +kernel
theorem dL_alike_121 : decode cL_alike 121 = .ok (.goto (-117), 3) := by decide +kernel
theorem dL_alike_124 : decode cL_alike 124 = .ok (.iconst 0, 1) := by decide +kernel
theorem dL_alike_125 : decode cL_alike 125 = .ok (.istore_n 3, 1) := by decide +kernel
theorem dL_alike_126 : decode cL_alike 126 = .ok (.iload_n 3, 1) := by decide +kernel
theorem dL_alike_127 : decode cL_alike 127 = .ok (.iconst 3, 1) := by decide +kernel
theorem dL_alike_128 : decode cL_alike 128 = .ok (.aload_n 0, 1) := by decide +kernel
theorem dL_alike_129 : decode cL_alike 129 = .ok (.bipush 10, 2) := by decide +kernel
theorem dL_alike_131 : decode cL_alike 131 = .ok (.invokestatic 143, 3) := by decide +kernel
theorem dL_alike_134 : decode cL_alike 134 = .ok (.imul, 1) := by decide +kernel
theorem dL_alike_135 : decode cL_alike 135 = .ok (.if_icmp .ge 42, 3) := by decide +kernel
theorem dL_alike_138 : decode cL_alike 138 = .ok (.iload_n 2, 1) := by decide +kernel
theorem dL_alike_139 : decode cL_alike 139 = .ok (.ifCond .eq 38, 3) := by decide +kernel
theorem dL_alike_142 : decode cL_alike 142 = .ok (.aload_n 0, 1) := by decide +kernel
theorem dL_alike_143 : decode cL_alike 143 = .ok (.iload_n 3, 1) := by decide +kernel
theorem dL_alike_144 : decode cL_alike 144 = .ok (.iconst 3, 1) := by decide +kernel
theorem dL_alike_145 : decode cL_alike 145 = .ok (.idiv, 1) := by decide +kernel
theorem dL_alike_146 : decode cL_alike 146 = .ok (.iload_n 3, 1) := by decide +kernel
theorem dL_alike_147 : decode cL_alike 147 = .ok (.iconst 3, 1) := by decide +kernel
theorem dL_alike_148 : decode cL_alike 148 = .ok (.irem, 1) := by decide +kernel
theorem dL_alike_149 : decode cL_alike 149 = .ok (.invokestatic 165, 3) := by decide +kernel
theorem dL_alike_152 : decode cL_alike 152 = .ok (.aload_n 1, 1) := by decide +kernel
theorem dL_alike_153 : decode cL_alike 153 = .ok (.iload_n 3, 1) := by decide +kernel
theorem dL_alike_154 : decode cL_alike 154 = .ok (.iconst 3, 1) := by decide +kernel
theorem dL_alike_155 : decode cL_alike 155 = .ok (.idiv, 1) := by decide +kernel
theorem dL_alike_156 : decode cL_alike 156 = .ok (.iload_n 3, 1) := by decide +kernel
theorem dL_alike_157 : decode cL_alike 157 = .ok (.iconst 3, 1) := by decide +kernel
theorem dL_alike_158 : decode cL_alike 158 = .ok (.irem, 1) := by decide +kernel
theorem dL_alike_159 : decode cL_alike 159 = .ok (.invokestatic 165, 3) := by decide +kernel
theorem dL_alike_162 : decode cL_alike 162 = .ok (.if_icmp .ne 7, 3) := by decide +kernel
theorem dL_alike_165 : decode cL_alike 165 = .ok (.iconst 1, 1) := by decide +kernel
theorem dL_alike_166 : decode cL_alike 166 = .ok (.goto 4, 3) := by decide +kernel
theorem dL_alike_169 : decode cL_alike 169 = .ok (.iconst 0, 1) := by decide +kernel
theorem dL_alike_170 : decode cL_alike 170 = .ok (.istore_n 2, 1) := by decide +kernel
theorem dL_alike_171 : decode cL_alike 171 = .ok (.iinc 3 1, 3) := by decide +kernel
theorem dL_alike_174 : decode cL_alike 174 = .ok (.goto (-48), 3) := by decide +kernel
theorem dL_alike_177 : decode cL_alike 177 = .ok (.iload_n 2, 1) := by decide +kernel
theorem dL_alike_178 : decode cL_alike 178 = .ok (.ireturn, 1) := by decide +kernel
set_option maxRecDepth 20000 in
theorem ggL_refuses_L_tryAbout : GoodIn wsL_refuses wsL_tryAbout := goodIn_ca (goodIn_r _ [10, 11, 1, 12, 13, 14, 15, 16, 17, 18, 19, 20, 21, 22, 23, 24, 25, 26, 27, 28, 29, 30, 31, 32, 33, 34, 35, 36, 37, 38, 39, 40, 41, 42, 43, 44, 45, 46, 47, 48, 49, 50, 51, 52, 53, 54, 55, 56, 57, 58, 59, 60, 61, 62, 63, 64, 65, 66, 67, 68, 69, 70, 518, 519, 520, 521, 522, 523, 524, 525, 526, 527, 528, 529, 530, 531, 532, 533, 534, 535, 536, 537, 538, 539, 540, 541, 542, 543, 544, 545, 546, 547, 548] rfl (by decide +kernel)) (goodIn_sub (fun _ h => List.mem_cons_of_mem _ (List.mem_append_left _ (List.mem_append_left _ (List.mem_append_right _ h)))) (by decide +kernel))
set_option maxRecDepth 20000 in
theorem gL_refuses_L_tryAbout : GoodIn wsL_refuses (va_wsS RL 143 yL_tryAbout wsL_tryAbout) := goodIn_app (goodIn_of _ (by decide +kernel)) ggL_refuses_L_tryAbout
set_option maxRecDepth 20000 in
theorem ggL_refuses_L_account : GoodIn wsL_refuses wsL_account := goodIn_ca (goodIn_r _ [73, 11, 2, 74, 75, 76, 15, 77, 17, 78, 79, 80, 81, 82, 18, 19, 20, 21, 22, 518, 519, 520, 521, 522, 523, 524, 525, 526, 527, 528, 536, 537, 538, 539, 529, 530, 531, 532, 533, 534, 535] rfl (by decide +kernel)) (goodIn_sub (fun _ h => List.mem_cons_of_mem _ (List.mem_append_left _ (List.mem_append_left _ (List.mem_append_right _ h)))) (by decide +kernel))
set_option maxRecDepth 20000 in
theorem gL_refuses_L_account : GoodIn wsL_refuses (va_wsS RL 158 yL_account wsL_account) := goodIn_app (goodIn_of _ (by decide +kernel)) ggL_refuses_L_account
set_option maxRecDepth 20000 in
theorem ggL_refuses_L_tryRegister : GoodIn wsL_refuses wsL_tryRegister := goodIn_ca (goodIn_r _ [85, 86, 3, 87, 88, 89, 15, 90, 17, 91, 92, 93, 94, 95, 96, 518, 519, 520, 521, 522, 523, 524, 525, 526, 527, 528] rfl (by decide +kernel)) (goodIn_sub (fun _ h => List.mem_cons_of_mem _ (List.mem_append_left _ (List.mem_append_right _ h))) (by decide +kernel))
set_option maxRecDepth 20000 in
theorem gL_refuses_L_tryRegister : GoodIn wsL_refuses (va_wsS RL 146 yL_tryRegister wsL_tryRegister) := goodIn_app (goodIn_of _ (by decide +kernel)) ggL_refuses_L_tryRegister
set_option maxRecDepth 20000 in
theorem ggL_refuses_L_tryIsGuarded : GoodIn wsL_refuses wsL_tryIsGuarded := goodIn_ca (goodIn_r _ [99, 86, 3, 100, 101, 102, 15, 103, 17, 104, 105, 92, 93, 94, 95, 96, 518, 519, 520, 521, 522, 523, 524, 525, 526, 527, 528, 540, 541, 542, 543, 544, 545] rfl (by decide +kernel)) (goodIn_sub (fun _ h => List.mem_cons_of_mem _ (List.mem_append_left _ (List.mem_append_right _ h))) (by decide +kernel))
set_option maxRecDepth 20000 in
theorem gL_refuses_L_tryIsGuarded : GoodIn wsL_refuses (va_wsS RL 149 yL_tryIsGuarded wsL_tryIsGuarded) := goodIn_app (goodIn_of _ (by decide +kernel)) ggL_refuses_L_tryIsGuarded
set_option maxRecDepth 20000 in
theorem ggL_refuses_L_tryRow : GoodIn wsL_refuses wsL_tryRow := goodIn_ca (goodIn_ca (goodIn_r _ [108, 86, 11, 3, 1, 109, 110, 111, 15, 112, 17, 104, 113, 92, 93, 94, 95, 96, 18, 19, 20, 21, 22, 114, 115, 116, 117, 118, 119, 120, 121, 518, 519, 520, 521, 522, 523, 524, 525, 526, 527, 528, 540, 541, 542, 543, 544, 545] rfl (by decide +kernel)) (goodIn_sub (fun _ h => List.mem_cons_of_mem _ (List.mem_append_left _ (List.mem_append_right _ h))) (by decide +kernel))) (goodIn_sub (fun _ h => List.mem_cons_of_mem _ (List.mem_append_left _ (List.mem_append_left _ (List.mem_append_right _ h)))) (by decide +kernel))
set_option maxRecDepth 20000 in
theorem gL_refuses_L_tryRow : GoodIn wsL_refuses (va_wsS RL 165 yL_tryRow wsL_tryRow) := goodIn_app (goodIn_of _ (by decide +kernel)) ggL_refuses_L_tryRow
set_option maxRecDepth 20000 in
theorem ggL_refuses_L_tryAlarm : GoodIn wsL_refuses wsL_tryAlarm := goodIn_ca (goodIn_ca (goodIn_r _ [124, 86, 11, 3, 1, 125, 126, 127, 15, 128, 17, 129, 92, 93, 94, 95, 96, 18, 19, 20, 21, 22, 130, 64, 65, 66, 67, 68, 69, 70, 518, 519, 520, 521, 522, 523, 524, 525, 526, 527, 528, 546, 547, 548] rfl (by decide +kernel)) (goodIn_sub (fun _ h => List.mem_cons_of_mem _ (List.mem_append_left _ (List.mem_append_right _ h))) (by decide +kernel))) (goodIn_sub (fun _ h => List.mem_cons_of_mem _ (List.mem_append_left _ (List.mem_append_left _ (List.mem_append_right _ h)))) (by decide +kernel))
set_option maxRecDepth 20000 in
theorem gL_refuses_L_tryAlarm : GoodIn wsL_refuses (va_wsS RL 161 yL_tryAlarm wsL_tryAlarm) := goodIn_app (goodIn_of _ (by decide +kernel)) ggL_refuses_L_tryAlarm
set_option maxRecDepth 20000 in
theorem ggL_refuses_L_tryPass : GoodIn wsL_refuses wsL_tryPass := goodIn_ca (goodIn_r _ [133, 11, 1, 134, 135, 136, 15, 137, 138, 17, 80, 139, 18, 19, 20, 21, 22, 140, 141, 142, 143, 144, 145, 146, 147, 148, 149, 150, 151, 152, 153, 26, 154, 28, 29, 35, 38, 155, 156, 157, 158, 159, 57, 160, 161, 162, 163, 164, 165, 166, 167, 168, 169, 170, 171, 172, 173, 174, 49, 175, 176, 177, 51, 52, 178, 179, 180, 181, 117, 182, 183, 184, 119, 120, 121, 185, 186, 187, 188, 189, 66, 190, 68, 69, 70, 191, 192, 193, 194, 195, 196, 197, 198, 46, 47, 48, 50, 199, 200, 201, 202, 203, 204, 205, 206, 207, 208, 209, 210, 211, 41, 39, 212, 213, 214, 215, 216, 217, 218, 219, 220, 221, 222, 223, 224, 225, 226, 227, 228, 229, 230, 231, 232, 233, 234, 235, 236, 237, 238, 239, 240, 241, 242, 243, 244, 245, 246, 247, 248, 249, 518, 519, 520, 521, 522, 523, 524, 525, 526, 527, 528, 529, 530, 531, 532, 533, 534, 535, 549, 550, 536, 537, 538, 539, 540, 541, 542, 543, 544, 545, 546, 547, 548] rfl (by decide +kernel)) (goodIn_sub (fun _ h => List.mem_cons_of_mem _ (List.mem_append_left _ (List.mem_append_left _ (List.mem_append_right _ h)))) (by decide +kernel))
set_option maxRecDepth 20000 in
theorem gL_refuses_L_tryPass : GoodIn wsL_refuses (va_wsS RL 168 yL_tryPass wsL_tryPass) := goodIn_app (goodIn_of _ (by decide +kernel)) ggL_refuses_L_tryPass
set_option maxRecDepth 20000 in
theorem ggL_refuses_L_tryLevel : GoodIn wsL_refuses wsL_tryLevel := goodIn_ca (goodIn_r _ [252, 11, 1, 253, 254, 255, 15, 256, 138, 17, 78, 18, 19, 20, 21, 22, 140, 141, 142, 143, 144, 145, 146, 147, 148, 149, 150, 151, 152, 153, 26, 154, 28, 29, 35, 38, 155, 156, 157, 158, 159, 57, 160, 161, 162, 163, 164, 165, 166, 167, 168, 169, 170, 171, 172, 173, 174, 49, 175, 176, 177, 51, 52, 178, 179, 180, 181, 117, 182, 183, 184, 119, 120, 121, 185, 186, 187, 188, 189, 66, 190, 68, 69, 70, 257, 258, 259, 260, 36, 46, 47, 48, 50, 204, 205, 206, 207, 208, 209, 210, 211, 41, 39, 212, 213, 214, 215, 216, 217, 218, 219, 220, 221, 222, 223, 224, 225, 226, 227, 228, 261, 518, 519, 520, 521, 522, 523, 524, 525, 526, 527, 528, 549, 550, 529, 530, 531, 532, 533, 534, 535, 536, 537, 538, 539, 540, 541, 542, 543, 544, 545, 546, 547, 548] rfl (by decide +kernel)) (goodIn_sub (fun _ h => List.mem_cons_of_mem _ (List.mem_append_left _ (List.mem_append_left _ (List.mem_append_right _ h)))) (by decide +kernel))
set_option maxRecDepth 20000 in
theorem gL_refuses_L_tryLevel : GoodIn wsL_refuses (va_wsS RL 171 yL_tryLevel wsL_tryLevel) := goodIn_app (goodIn_of _ (by decide +kernel)) ggL_refuses_L_tryLevel
set_option maxRecDepth 20000 in
theorem ggL_refuses_L_trySetTime : GoodIn wsL_refuses wsL_trySetTime := goodIn_ca (goodIn_ca (goodIn_r _ [264, 11, 265, 1, 5, 266, 267, 268, 15, 269, 270, 138, 17, 80, 139, 18, 19, 20, 21, 22, 271, 272, 273, 274, 275, 276, 277, 278, 279, 26, 280, 35, 46, 47, 48, 49, 50, 51, 52, 140, 141, 142, 143, 144, 145, 146, 147, 148, 149, 150, 151, 152, 153, 154, 28, 29, 38, 155, 156, 157, 158, 159, 57, 160, 161, 162, 163, 164, 165, 166, 167, 168, 169, 170, 171, 172, 173, 174, 175, 176, 177, 178, 179, 180, 181, 117, 182, 183, 184, 119, 120, 121, 185, 186, 187, 188, 189, 66, 190, 68, 69, 70, 281, 282, 283, 284, 518, 519, 520, 521, 522, 523, 524, 525, 526, 527, 528, 529, 530, 531, 532, 533, 534, 535, 536, 537, 538, 539, 549, 550, 540, 541, 542, 543, 544, 545, 546, 547, 548] rfl (by decide +kernel)) (goodIn_sub (fun _ h => List.mem_cons_of_mem _ (List.mem_append_left _ (List.mem_append_left _ (List.mem_append_right _ h)))) (by decide +kernel))) (goodIn_sub (fun _ h => List.mem_cons_of_mem _ (List.mem_append_right _ h)) (by decide +kernel))
set_option maxRecDepth 20000 in
theorem gL_refuses_L_trySetTime : GoodIn wsL_refuses (va_wsS RL 174 yL_trySetTime wsL_trySetTime) := goodIn_app (goodIn_of _ (by decide +kernel)) ggL_refuses_L_trySetTime
set_option maxRecDepth 20000 in
theorem ggL_refuses_L_tryCorrect : GoodIn wsL_refuses wsL_tryCorrect := goodIn_ca (goodIn_ca (goodIn_r _ [287, 11, 265, 1, 5, 288, 289, 290, 15, 291, 138, 17, 80, 292, 18, 19, 20, 21, 22, 271, 272, 273, 274, 275, 276, 277, 278, 279, 26, 280, 35, 46, 47, 48, 49, 50, 51, 52, 140, 141, 142, 143, 144, 145, 146, 147, 148, 149, 150, 151, 152, 153, 154, 28, 29, 38, 155, 156, 157, 158, 159, 57, 160, 161, 162, 163, 164, 165, 166, 167, 168, 169, 170, 171, 172, 173, 174, 175, 176, 177, 178, 179, 180, 181, 117, 182, 183, 184, 119, 120, 121, 185, 186, 187, 188, 189, 66, 190, 68, 69, 70, 518, 519, 520, 521, 522, 523, 524, 525, 526, 527, 528, 529, 530, 531, 532, 533, 534, 535, 536, 537, 538, 539, 549, 550, 540, 541, 542, 543, 544, 545, 546, 547, 548] rfl (by decide +kernel)) (goodIn_sub (fun _ h => List.mem_cons_of_mem _ (List.mem_append_left _ (List.mem_append_left _ (List.mem_append_right _ h)))) (by decide +kernel))) (goodIn_sub (fun _ h => List.mem_cons_of_mem _ (List.mem_append_right _ h)) (by decide +kernel))
set_option maxRecDepth 20000 in
theorem gL_refuses_L_tryCorrect : GoodIn wsL_refuses (va_wsS RL 178 yL_tryCorrect wsL_tryCorrect) := goodIn_app (goodIn_of _ (by decide +kernel)) ggL_refuses_L_tryCorrect
set_option maxRecDepth 20000 in
theorem ggL_refuses_L_tryAge : GoodIn wsL_refuses wsL_tryAge := goodIn_ca (goodIn_r _ [295, 11, 1, 296, 297, 298, 15, 299, 138, 17, 80, 300, 18, 19, 20, 21, 22, 140, 141, 142, 143, 144, 145, 146, 147, 148, 149, 150, 151, 152, 153, 26, 154, 28, 29, 35, 38, 155, 156, 157, 158, 159, 57, 160, 161, 162, 163, 164, 165, 166, 167, 168, 169, 170, 171, 172, 173, 174, 49, 175, 176, 177, 51, 52, 178, 179, 180, 181, 117, 182, 183, 184, 119, 120, 121, 185, 186, 187, 188, 189, 66, 190, 68, 69, 70, 518, 519, 520, 521, 522, 523, 524, 525, 526, 527, 528, 529, 530, 531, 532, 533, 534, 535, 549, 550, 536, 537, 538, 539, 540, 541, 542, 543, 544, 545, 546, 547, 548] rfl (by decide +kernel)) (goodIn_sub (fun _ h => List.mem_cons_of_mem _ (List.mem_append_left _ (List.mem_append_left _ (List.mem_append_right _ h)))) (by decide +kernel))
set_option maxRecDepth 20000 in
theorem gL_refuses_L_tryAge : GoodIn wsL_refuses (va_wsS RL 181 yL_tryAge wsL_tryAge) := goodIn_app (goodIn_of _ (by decide +kernel)) ggL_refuses_L_tryAge
set_option maxRecDepth 20000 in
theorem ggL_refuses_L_tryWrite : GoodIn wsL_refuses wsL_tryWrite := goodIn_ca (goodIn_ca (goodIn_ca (goodIn_r _ [303, 86, 11, 265, 3, 1, 5, 304, 305, 306, 15, 307, 138, 17, 91, 92, 93, 94, 95, 96, 18, 19, 20, 21, 22, 271, 272, 273, 274, 275, 276, 277, 278, 279, 26, 280, 35, 46, 47, 48, 49, 50, 51, 52, 140, 141, 142, 143, 144, 145, 146, 147, 148, 149, 150, 151, 152, 153, 154, 28, 29, 38, 155, 156, 157, 158, 159, 57, 160, 161, 162, 163, 164, 165, 166, 167, 168, 169, 170, 171, 172, 173, 174, 175, 176, 177, 178, 179, 180, 181, 117, 182, 183, 184, 119, 120, 121, 185, 186, 187, 188, 189, 66, 190, 68, 69, 70, 518, 519, 520, 521, 522, 523, 524, 525, 526, 527, 528, 536, 537, 538, 539, 549, 550, 529, 530, 531, 532, 533, 534, 535, 540, 541, 542, 543, 544, 545, 546, 547, 548] rfl (by decide +kernel)) (goodIn_sub (fun _ h => List.mem_cons_of_mem _ (List.mem_append_left _ (List.mem_append_right _ h))) (by decide +kernel))) (goodIn_sub (fun _ h => List.mem_cons_of_mem _ (List.mem_append_left _ (List.mem_append_left _ (List.mem_append_right _ h)))) (by decide +kernel))) (goodIn_sub (fun _ h => List.mem_cons_of_mem _ (List.mem_append_right _ h)) (by decide +kernel))
set_option maxRecDepth 20000 in
theorem gL_refuses_L_tryWrite : GoodIn wsL_refuses (va_wsS RL 184 yL_tryWrite wsL_tryWrite) := goodIn_app (goodIn_of _ (by decide +kernel)) ggL_refuses_L_tryWrite
set_option maxRecDepth 20000 in
theorem ggL_refuses_L_tryGuard : GoodIn wsL_refuses wsL_tryGuard := goodIn_ca (goodIn_ca (goodIn_r _ [310, 86, 265, 3, 5, 311, 312, 313, 15, 314, 138, 17, 104, 105, 92, 93, 94, 95, 96, 271, 272, 273, 274, 275, 276, 277, 278, 279, 26, 280, 35, 46, 47, 48, 49, 50, 51, 52, 140, 141, 142, 143, 144, 145, 146, 147, 148, 149, 150, 151, 152, 153, 154, 28, 29, 38, 155, 156, 157, 158, 159, 57, 160, 161, 162, 163, 164, 165, 166, 167, 168, 169, 170, 171, 172, 173, 174, 175, 176, 177, 178, 179, 180, 181, 117, 182, 183, 184, 119, 120, 121, 185, 186, 187, 188, 189, 66, 190, 68, 69, 70, 315, 316, 317, 318, 518, 519, 520, 521, 522, 523, 524, 525, 526, 527, 528, 540, 541, 542, 543, 544, 545, 536, 537, 538, 539, 549, 550, 529, 530, 531, 532, 533, 534, 535, 546, 547, 548] rfl (by decide +kernel)) (goodIn_sub (fun _ h => List.mem_cons_of_mem _ (List.mem_append_left _ (List.mem_append_right _ h))) (by decide +kernel))) (goodIn_sub (fun _ h => List.mem_cons_of_mem _ (List.mem_append_right _ h)) (by decide +kernel))
set_option maxRecDepth 20000 in
theorem gL_refuses_L_tryGuard : GoodIn wsL_refuses (va_wsS RL 187 yL_tryGuard wsL_tryGuard) := goodIn_app (goodIn_of _ (by decide +kernel)) ggL_refuses_L_tryGuard
set_option maxRecDepth 20000 in
theorem ggL_refuses_L_tryTamper : GoodIn wsL_refuses wsL_tryTamper := goodIn_ca (goodIn_r _ [321, 86, 3, 322, 323, 324, 15, 325, 138, 17, 104, 113, 92, 93, 94, 95, 96, 140, 141, 142, 143, 144, 145, 146, 147, 148, 149, 150, 151, 152, 153, 26, 154, 28, 29, 35, 38, 155, 156, 157, 158, 159, 57, 160, 161, 162, 163, 164, 165, 166, 167, 168, 169, 170, 171, 172, 173, 174, 49, 175, 176, 177, 51, 52, 178, 179, 180, 181, 117, 182, 183, 184, 119, 120, 121, 185, 186, 187, 188, 189, 66, 190, 68, 69, 70, 326, 327, 328, 329, 330, 30, 46, 47, 48, 50, 217, 218, 219, 220, 331, 332, 333, 334, 518, 519, 520, 521, 522, 523, 524, 525, 526, 527, 528, 540, 541, 542, 543, 544, 545, 549, 550, 529, 530, 531, 532, 533, 534, 535, 536, 537, 538, 539, 546, 547, 548] rfl (by decide +kernel)) (goodIn_sub (fun _ h => List.mem_cons_of_mem _ (List.mem_append_left _ (List.mem_append_right _ h))) (by decide +kernel))
set_option maxRecDepth 20000 in
theorem gL_refuses_L_tryTamper : GoodIn wsL_refuses (va_wsS RL 190 yL_tryTamper wsL_tryTamper) := goodIn_app (goodIn_of _ (by decide +kernel)) ggL_refuses_L_tryTamper
set_option maxRecDepth 20000 in
theorem ggL_refuses_L_trySetAlarm : GoodIn wsL_refuses wsL_trySetAlarm := goodIn_ca (goodIn_ca (goodIn_r _ [337, 86, 11, 3, 1, 338, 339, 340, 15, 341, 138, 17, 129, 342, 343, 92, 93, 94, 95, 96, 18, 19, 20, 21, 22, 140, 141, 142, 143, 144, 145, 146, 147, 148, 149, 150, 151, 152, 153, 26, 154, 28, 29, 35, 38, 155, 156, 157, 158, 159, 57, 160, 161, 162, 163, 164, 165, 166, 167, 168, 169, 170, 171, 172, 173, 174, 49, 175, 176, 177, 51, 52, 178, 179, 180, 181, 117, 182, 183, 184, 119, 120, 121, 185, 186, 187, 188, 189, 66, 190, 68, 69, 70, 344, 345, 346, 347, 518, 519, 520, 521, 522, 523, 524, 525, 526, 527, 528, 546, 547, 548, 549, 550, 529, 530, 531, 532, 533, 534, 535, 536, 537, 538, 539, 540, 541, 542, 543, 544, 545] rfl (by decide +kernel)) (goodIn_sub (fun _ h => List.mem_cons_of_mem _ (List.mem_append_left _ (List.mem_append_right _ h))) (by decide +kernel))) (goodIn_sub (fun _ h => List.mem_cons_of_mem _ (List.mem_append_left _ (List.mem_append_left _ (List.mem_append_right _ h)))) (by decide +kernel))
set_option maxRecDepth 20000 in
theorem gL_refuses_L_trySetAlarm : GoodIn wsL_refuses (va_wsS RL 193 yL_trySetAlarm wsL_trySetAlarm) := goodIn_app (goodIn_of _ (by decide +kernel)) ggL_refuses_L_trySetAlarm
set_option maxRecDepth 20000 in
theorem ggL_refuses_L_tryBattery : GoodIn wsL_refuses wsL_tryBattery := goodIn_ca (goodIn_r _ [350, 11, 1, 351, 352, 353, 15, 354, 138, 17, 78, 18, 19, 20, 21, 22, 140, 141, 142, 143, 144, 145, 146, 147, 148, 149, 150, 151, 152, 153, 26, 154, 28, 29, 35, 38, 155, 156, 157, 158, 159, 57, 160, 161, 162, 163, 164, 165, 166, 167, 168, 169, 170, 171, 172, 173, 174, 49, 175, 176, 177, 51, 52, 178, 179, 180, 181, 117, 182, 183, 184, 119, 120, 121, 185, 186, 187, 188, 189, 66, 190, 68, 69, 70, 355, 356, 357, 358, 37, 46, 47, 48, 50, 204, 205, 206, 207, 208, 209, 210, 211, 41, 39, 212, 213, 214, 215, 216, 217, 218, 219, 220, 221, 222, 223, 224, 225, 226, 227, 228, 261, 518, 519, 520, 521, 522, 523, 524, 525, 526, 527, 528, 549, 550, 529, 530, 531, 532, 533, 534, 535, 536, 537, 538, 539, 540, 541, 542, 543, 544, 545, 546, 547, 548] rfl (by decide +kernel)) (goodIn_sub (fun _ h => List.mem_cons_of_mem _ (List.mem_append_left _ (List.mem_append_left _ (List.mem_append_right _ h)))) (by decide +kernel))
set_option maxRecDepth 20000 in
theorem gL_refuses_L_tryBattery : GoodIn wsL_refuses (va_wsS RL 196 yL_tryBattery wsL_tryBattery) := goodIn_app (goodIn_of _ (by decide +kernel)) ggL_refuses_L_tryBattery
set_option maxRecDepth 20000 in
theorem ggL_refuses_L_tryClearRows : GoodIn wsL_refuses wsL_tryClearRows := goodIn_ca (goodIn_r _ [361, 265, 5, 362, 363, 364, 15, 365, 138, 17, 104, 113, 271, 272, 273, 274, 275, 276, 277, 278, 279, 26, 280, 35, 46, 47, 48, 49, 50, 51, 52, 140, 141, 142, 143, 144, 145, 146, 147, 148, 149, 150, 151, 152, 153, 154, 28, 29, 38, 155, 156, 157, 158, 159, 57, 160, 161, 162, 163, 164, 165, 166, 167, 168, 169, 170, 171, 172, 173, 174, 175, 176, 177, 178, 179, 180, 181, 117, 182, 183, 184, 119, 120, 121, 185, 186, 187, 188, 189, 66, 190, 68, 69, 70, 518, 519, 520, 521, 522, 523, 524, 525, 526, 527, 528, 540, 541, 542, 543, 544, 545, 536, 537, 538, 539, 549, 550, 529, 530, 531, 532, 533, 534, 535, 546, 547, 548] rfl (by decide +kernel)) (goodIn_sub (fun _ h => List.mem_cons_of_mem _ (List.mem_append_right _ h)) (by decide +kernel))
set_option maxRecDepth 20000 in
theorem gL_refuses_L_tryClearRows : GoodIn wsL_refuses (va_wsS RL 199 yL_tryClearRows wsL_tryClearRows) := goodIn_app (goodIn_of _ (by decide +kernel)) ggL_refuses_L_tryClearRows
set_option maxRecDepth 20000 in
theorem ggL_refuses_L_tryAhead : GoodIn wsL_refuses wsL_tryAhead := goodIn_ca (goodIn_r _ [368, 11, 1, 369, 370, 371, 15, 372, 373, 374, 17, 18, 19, 20, 21, 22, 375, 152, 153, 26, 154, 28, 29, 35, 38, 155, 156, 157, 158, 159, 57, 160, 161, 162, 163, 164, 165, 166, 167, 168, 169, 170, 171, 172, 173, 174, 49, 175, 176, 177, 51, 52, 178, 179, 180, 181, 117, 182, 183, 184, 119, 120, 121, 185, 186, 187, 188, 189, 66, 190, 68, 69, 70, 191, 192, 193, 194, 195, 196, 197, 198, 46, 47, 48, 50, 199, 200, 201, 202, 203, 204, 205, 206, 207, 208, 209, 210, 211, 41, 39, 212, 213, 214, 215, 216, 217, 218, 219, 220, 221, 222, 223, 224, 225, 226, 227, 228, 229, 230, 231, 232, 233, 234, 235, 236, 237, 238, 239, 240, 241, 242, 243, 244, 245, 246, 247, 248, 249, 23, 24, 25, 27, 30, 31, 32, 33, 34, 36, 37, 40, 42, 43, 44, 45, 53, 54, 55, 56, 58, 59, 60, 61, 62, 63, 64, 65, 67, 518, 519, 520, 521, 522, 523, 524, 525, 526, 527, 528, 529, 530, 531, 532, 533, 534, 535, 536, 537, 538, 539, 540, 541, 542, 543, 544, 545, 546, 547, 548] rfl (by decide +kernel)) (goodIn_sub (fun _ h => List.mem_cons_of_mem _ (List.mem_append_left _ (List.mem_append_left _ (List.mem_append_right _ h)))) (by decide +kernel))
set_option maxRecDepth 20000 in
theorem gL_refuses_L_tryAhead : GoodIn wsL_refuses (va_wsS RL 202 yL_tryAhead wsL_tryAhead) := goodIn_app (goodIn_of _ (by decide +kernel)) ggL_refuses_L_tryAhead
set_option maxRecDepth 20000 in
theorem ggL_refuses_L_tryDueAfter : GoodIn wsL_refuses wsL_tryDueAfter := goodIn_ca (goodIn_r _ [378, 86, 3, 379, 380, 381, 15, 382, 374, 17, 80, 129, 343, 92, 93, 94, 95, 96, 375, 152, 153, 26, 154, 28, 29, 35, 38, 155, 156, 157, 158, 159, 57, 160, 161, 162, 163, 164, 165, 166, 167, 168, 169, 170, 171, 172, 173, 174, 49, 175, 176, 177, 51, 52, 178, 179, 180, 181, 117, 182, 183, 184, 119, 120, 121, 185, 186, 187, 188, 189, 66, 190, 68, 69, 70, 383, 234, 235, 236, 384, 196, 197, 198, 46, 47, 48, 50, 199, 200, 201, 202, 203, 204, 205, 206, 207, 208, 209, 210, 211, 41, 39, 212, 213, 214, 215, 216, 217, 218, 219, 220, 221, 222, 223, 224, 225, 226, 227, 228, 229, 230, 231, 232, 233, 237, 238, 239, 240, 241, 242, 243, 244, 245, 246, 247, 248, 249, 385, 518, 519, 520, 521, 522, 523, 524, 525, 526, 527, 528, 529, 530, 531, 532, 533, 534, 535, 536, 537, 538, 539, 540, 541, 542, 543, 544, 545, 546, 547, 548] rfl (by decide +kernel)) (goodIn_sub (fun _ h => List.mem_cons_of_mem _ (List.mem_append_left _ (List.mem_append_right _ h))) (by decide +kernel))
set_option maxRecDepth 20000 in
theorem gL_refuses_L_tryDueAfter : GoodIn wsL_refuses (va_wsS RL 205 yL_tryDueAfter wsL_tryDueAfter) := goodIn_app (goodIn_of _ (by decide +kernel)) ggL_refuses_L_tryDueAfter
set_option maxRecDepth 20000 in
theorem ggL_refuses_L_tryBestCorrection : GoodIn wsL_refuses wsL_tryBestCorrection := goodIn_ca (goodIn_r _ [388, 11, 1, 389, 390, 391, 15, 392, 17, 18, 19, 20, 21, 22, 393, 394, 395, 26, 396, 35, 46, 47, 48, 49, 50, 51, 52, 397, 398, 399, 400, 401, 203, 402, 403, 404, 405, 406, 407, 408, 409, 29, 410, 411, 412, 413, 42, 43, 44, 45, 30, 28, 414, 415, 416, 163, 417, 166, 168, 241, 518, 519, 520, 521, 522, 523, 524, 525, 526, 527, 528, 536, 537, 538, 539, 529, 530, 531, 532, 533, 534, 535] rfl (by decide +kernel)) (goodIn_sub (fun _ h => List.mem_cons_of_mem _ (List.mem_append_left _ (List.mem_append_left _ (List.mem_append_right _ h)))) (by decide +kernel))
set_option maxRecDepth 20000 in
theorem gL_refuses_L_tryBestCorrection : GoodIn wsL_refuses (va_wsS RL 208 yL_tryBestCorrection wsL_tryBestCorrection) := goodIn_app (goodIn_of _ (by decide +kernel)) ggL_refuses_L_tryBestCorrection
set_option maxRecDepth 20000 in
theorem ggL_refuses_L_tryScript : GoodIn wsL_refuses wsL_tryScript := goodIn_ca (goodIn_r _ [420, 11, 1, 421, 422, 423, 15, 424, 21, 22, 374, 17, 343, 18, 19, 20, 425, 426, 427, 428, 429, 375, 152, 153, 26, 154, 28, 29, 35, 38, 155, 156, 157, 158, 159, 57, 160, 161, 162, 163, 164, 165, 166, 167, 168, 169, 170, 171, 172, 173, 174, 49, 175, 176, 177, 51, 52, 178, 179, 180, 181, 117, 182, 183, 184, 119, 120, 121, 185, 186, 187, 188, 189, 66, 190, 68, 69, 70, 430, 431, 432, 433, 434, 435, 436, 437, 438, 439, 440, 441, 192, 193, 194, 195, 196, 197, 198, 46, 47, 48, 50, 199, 200, 201, 202, 203, 204, 205, 206, 207, 208, 209, 210, 211, 41, 39, 212, 213, 214, 215, 216, 217, 218, 219, 220, 221, 222, 223, 224, 225, 226, 227, 228, 229, 230, 231, 232, 233, 234, 235, 236, 237, 238, 239, 240, 241, 242, 243, 244, 245, 246, 247, 248, 249, 442, 443, 444, 445, 258, 259, 260, 36, 446, 447, 448, 449, 450, 451, 452, 453, 454, 278, 279, 280, 455, 456, 457, 458, 459, 460, 461, 327, 328, 329, 330, 30, 331, 332, 333, 334, 462, 463, 464, 465, 466, 467, 345, 346, 347, 468, 469, 43, 44, 45, 518, 519, 520, 521, 522, 523, 524, 525, 526, 527, 528, 529, 530, 531, 532, 533, 534, 535, 536, 537, 538, 539, 540, 541, 542, 543, 544, 545, 546, 547, 548] rfl (by decide +kernel)) (goodIn_sub (fun _ h => List.mem_cons_of_mem _ (List.mem_append_left _ (List.mem_append_left _ (List.mem_append_right _ h)))) (by decide +kernel))
set_option maxRecDepth 20000 in
theorem gL_refuses_L_tryScript : GoodIn wsL_refuses (va_wsS RL 211 yL_tryScript wsL_tryScript) := goodIn_app (goodIn_of _ (by decide +kernel)) ggL_refuses_L_tryScript
set_option maxRecDepth 20000 in
theorem ggL_refuses_L_trySimulate : GoodIn wsL_refuses wsL_trySimulate := goodIn_ca (goodIn_r _ [472, 11, 1, 473, 474, 475, 15, 476, 374, 17, 477, 478, 78, 479, 104, 113, 18, 19, 20, 21, 22, 375, 152, 153, 26, 154, 28, 29, 35, 38, 155, 156, 157, 158, 159, 57, 160, 161, 162, 163, 164, 165, 166, 167, 168, 169, 170, 171, 172, 173, 174, 49, 175, 176, 177, 51, 52, 178, 179, 180, 181, 117, 182, 183, 184, 119, 120, 121, 185, 186, 187, 188, 189, 66, 190, 68, 69, 70, 257, 258, 259, 260, 36, 46, 47, 48, 50, 204, 205, 206, 207, 208, 209, 210, 211, 41, 39, 212, 213, 214, 215, 216, 217, 218, 219, 220, 221, 222, 223, 224, 225, 226, 227, 228, 326, 327, 328, 329, 330, 30, 331, 332, 333, 334, 191, 192, 193, 194, 195, 196, 197, 198, 199, 200, 201, 202, 203, 229, 230, 231, 232, 233, 234, 235, 236, 237, 238, 239, 240, 241, 242, 243, 244, 245, 246, 247, 248, 249, 261, 518, 519, 520, 521, 522, 523, 524, 525, 526, 527, 528, 536, 537, 538, 539, 540, 541, 542, 543, 544, 545, 529, 530, 531, 532, 533, 534, 535, 546, 547, 548] rfl (by decide +kernel)) (goodIn_sub (fun _ h => List.mem_cons_of_mem _ (List.mem_append_left _ (List.mem_append_left _ (List.mem_append_right _ h)))) (by decide +kernel))
set_option maxRecDepth 20000 in
theorem gL_refuses_L_trySimulate : GoodIn wsL_refuses (va_wsS RL 217 yL_trySimulate wsL_trySimulate) := goodIn_app (goodIn_of _ (by decide +kernel)) ggL_refuses_L_trySimulate
set_option maxRecDepth 20000 in
theorem ggL_refuses_L_trySave : GoodIn wsL_refuses wsL_trySave := goodIn_ca (goodIn_r _ [482, 86, 3, 483, 484, 485, 15, 486, 487, 488, 17, 489, 490, 92, 93, 94, 95, 96, 375, 152, 153, 26, 154, 28, 29, 35, 38, 155, 156, 157, 158, 159, 57, 160, 161, 162, 163, 164, 165, 166, 167, 168, 169, 170, 171, 172, 173, 174, 49, 175, 176, 177, 51, 52, 178, 179, 180, 181, 117, 182, 183, 184, 119, 120, 121, 185, 186, 187, 188, 189, 66, 190, 68, 69, 70, 518, 519, 520, 521, 522, 551, 552, 523, 524, 525, 526, 527, 528, 529, 530, 531, 532, 533, 534, 535, 536, 537, 538, 539, 540, 541, 542, 543, 544, 545, 546, 547, 548] rfl (by decide +kernel)) (goodIn_sub (fun _ h => List.mem_cons_of_mem _ (List.mem_append_left _ (List.mem_append_right _ h))) (by decide +kernel))
set_option maxRecDepth 20000 in
theorem gL_refuses_L_trySave : GoodIn wsL_refuses (va_wsS RL 221 yL_trySave wsL_trySave) := goodIn_app (goodIn_of _ (by decide +kernel)) ggL_refuses_L_trySave
set_option maxRecDepth 20000 in
theorem ggL_refuses_L_tryRestore : GoodIn wsL_refuses wsL_tryRestore := goodIn_ca (goodIn_ca (goodIn_r _ [493, 86, 265, 3, 5, 494, 495, 496, 15, 497, 275, 276, 487, 489, 17, 488, 138, 490, 92, 93, 94, 95, 96, 375, 152, 153, 26, 154, 28, 29, 35, 38, 155, 156, 157, 158, 159, 57, 160, 161, 162, 163, 164, 165, 166, 167, 168, 169, 170, 171, 172, 173, 174, 49, 175, 176, 177, 51, 52, 178, 179, 180, 181, 117, 182, 183, 184, 119, 120, 121, 185, 186, 187, 188, 189, 66, 190, 68, 69, 70, 498, 499, 500, 143, 501, 145, 518, 519, 520, 521, 522, 551, 552, 523, 524, 525, 526, 527, 528, 529, 530, 531, 532, 533, 534, 535, 536, 537, 538, 539, 540, 541, 542, 543, 544, 545, 546, 547, 548, 549, 550] rfl (by decide +kernel)) (goodIn_sub (fun _ h => List.mem_cons_of_mem _ (List.mem_append_right _ h)) (by decide +kernel))) (goodIn_sub (fun _ h => List.mem_cons_of_mem _ (List.mem_append_left _ (List.mem_append_right _ h))) (by decide +kernel))
set_option maxRecDepth 20000 in
theorem gL_refuses_L_tryRestore : GoodIn wsL_refuses (va_wsS RL 155 yL_tryRestore wsL_tryRestore) := goodIn_app (goodIn_of _ (by decide +kernel)) ggL_refuses_L_tryRestore
set_option maxRecDepth 20000 in
theorem ggL_refuses_L_tryAppend : GoodIn wsL_refuses wsL_tryAppend := goodIn_ca (goodIn_ca (goodIn_r _ [504, 11, 265, 1, 5, 505, 506, 507, 15, 508, 275, 276, 509, 510, 18, 19, 20, 21, 22, 511, 512, 513, 514, 515, 516, 517, 518, 519, 520, 521, 522, 553, 554, 555, 556, 557, 558, 559] rfl (by decide +kernel)) (goodIn_sub (fun _ h => List.mem_cons_of_mem _ (List.mem_append_right _ h)) (by decide +kernel))) (goodIn_sub (fun _ h => List.mem_cons_of_mem _ (List.mem_append_left _ (List.mem_append_left _ (List.mem_append_right _ h)))) (by decide +kernel))
set_option maxRecDepth 20000 in
theorem gL_refuses_L_tryAppend : GoodIn wsL_refuses (va_wsS RL 111 yL_tryAppend wsL_tryAppend) := goodIn_app (goodIn_of _ (by decide +kernel)) ggL_refuses_L_tryAppend
theorem dL_refuses_0 : decode cL_refuses 0 = .ok (.aload_n 0, 1) := by decide +kernel
theorem dL_refuses_1 : decode cL_refuses 1 = .ok (.bipush 10, 2) := by decide +kernel
theorem dL_refuses_3 : decode cL_refuses 3 = .ok (.invokestatic 143, 3) := by decide +kernel
theorem dL_refuses_6 : decode cL_refuses 6 = .ok (.istore_n 1, 1) := by decide +kernel
theorem dL_refuses_7 : decode cL_refuses 7 = .ok (.aload_n 0, 1) := by decide +kernel
theorem dL_refuses_8 : decode cL_refuses 8 = .ok (.bipush 9, 2) := by decide +kernel
theorem dL_refuses_10 : decode cL_refuses 10 = .ok (.invokestatic 143, 3) := by decide +kernel
theorem dL_refuses_13 : decode cL_refuses 13 = .ok (.ifCond .le 7, 3) := by decide +kernel
theorem dL_refuses_16 : decode cL_refuses 16 = .ok (.iconst 1, 1) := by decide +kernel
theorem dL_refuses_17 : decode cL_refuses 17 = .ok (.goto 4, 3) := by decide +kernel
theorem dL_refuses_20 : decode cL_refuses 20 = .ok (.iconst 0, 1) := by decide +kernel
theorem dL_refuses_21 : decode cL_refuses 21 = .ok (.istore_n 2, 1) := by decide +kernel
theorem dL_refuses_22 : decode cL_refuses 22 = .ok (.aload_n 0, 1) := by decide +kernel
theorem dL_refuses_23 : decode cL_refuses 23 = .ok (.bipush 15, 2) := by decide +kernel
theorem dL_refuses_25 : decode cL_refuses 25 = .ok (.invokestatic 143, 3) := by decide +kernel
theorem dL_refuses_28 : decode cL_refuses 28 = .ok (.ldc 15, 2) := by decide +kernel
theorem dL_refuses_30 : decode cL_refuses 30 = .ok (.if_icmp .ne 253, 3) := by decide +kernel
theorem dL_refuses_33 : decode cL_refuses 33 = .ok (.aload_n 0, 1) := by decide +kernel
theorem dL_refuses_34 : decode cL_refuses 34 = .ok (.bipush 6, 2) := by decide +kernel
theorem dL_refuses_36 : decode cL_refuses 36 = .ok (.invokestatic 158, 3) := by decide +kernel
theorem dL_refuses_39 : decode cL_refuses 39 = .ok (.ldc2_w 107, 3) := by decide +kernel
theorem dL_refuses_42 : decode cL_refuses 42 = .ok (.lcmp, 1) := by decide +kernel
theorem dL_refuses_43 : decode cL_refuses 43 = .ok (.ifCond .ne 240, 3) := by decide +kernel
theorem dL_refuses_46 : decode cL_refuses 46 = .ok (.aload_n 0, 1) := by decide +kernel
theorem dL_refuses_47 : decode cL_refuses 47 = .ok (.bipush 8, 2) := by decide +kernel
theorem dL_refuses_49 : decode cL_refuses 49 = .ok (.invokestatic 146, 3) := by decide +kernel
theorem dL_refuses_52 : decode cL_refuses 52 = .ok (.ldc 31, 2) := by decide +kernel
theorem dL_refuses_54 : decode cL_refuses 54 = .ok (.if_icmp .ne 229, 3) := by decide +kernel
theorem dL_refuses_57 : decode cL_refuses 57 = .ok (.aload_n 0, 1) := by decide +kernel
theorem dL_refuses_58 : decode cL_refuses 58 = .ok (.iconst 3, 1) := by decide +kernel
theorem dL_refuses_59 : decode cL_refuses 59 = .ok (.invokestatic 149, 3) := by decide +kernel
theorem dL_refuses_62 : decode cL_refuses 62 = .ok (.ldc 31, 2) := by decide +kernel
theorem dL_refuses_64 : decode cL_refuses 64 = .ok (.if_icmp .ne 219, 3) := by decide +kernel
theorem dL_refuses_67 : decode cL_refuses 67 = .ok (.aload_n 0, 1) := by decide +kernel
theorem dL_refuses_68 : decode cL_refuses 68 = .ok (.iload_n 1, 1) := by decide +kernel
theorem dL_refuses_69 : decode cL_refuses 69 = .ok (.iconst 3, 1) := by decide +kernel
theorem dL_refuses_70 : decode cL_refuses 70 = .ok (.invokestatic 165, 3) := by decide +kernel
theorem dL_refuses_73 : decode cL_refuses 73 = .ok (.ldc 31, 2) := by decide +kernel
theorem dL_refuses_75 : decode cL_refuses 75 = .ok (.if_icmp .ne 208, 3) := by decide +kernel
theorem dL_refuses_78 : decode cL_refuses 78 = .ok (.iload_n 1, 1) := by decide +kernel
theorem dL_refuses_79 : decode cL_refuses 79 = .ok (.ifCond .eq 14, 3) := by decide +kernel
theorem dL_refuses_82 : decode cL_refuses 82 = .ok (.aload_n 0, 1) := by decide +kernel
theorem dL_refuses_83 : decode cL_refuses 83 = .ok (.iconst 0, 1) := by decide +kernel
theorem dL_refuses_84 : decode cL_refuses 84 = .ok (.iconst 3, 1) := by decide +kernel
theorem dL_refuses_85 : decode cL_refuses 85 = .ok (.invokestatic 165, 3) := by decide +kernel
theorem dL_refuses_88 : decode cL_refuses 88 = .ok (.ldc 15, 2) := by decide +kernel
theorem dL_refuses_90 : decode cL_refuses 90 = .ok (.if_icmp .ne 193, 3) := by decide +kernel
theorem dL_refuses_93 : decode cL_refuses 93 = .ok (.aload_n 0, 1) := by decide +kernel
theorem dL_refuses_94 : decode cL_refuses 94 = .ok (.iconst 4, 1) := by decide +kernel
theorem dL_refuses_95 : decode cL_refuses 95 = .ok (.iconst 3, 1) := by decide +kernel
theorem dL_refuses_96 : decode cL_refuses 96 = .ok (.invokestatic 161, 3) := by decide +kernel
theorem dL_refuses_99 : decode cL_refuses 99 = .ok (.ldc 31, 2) := by decide +kernel
theorem dL_refuses_101 : decode cL_refuses 101 = .ok (.if_icmp .ne 182, 3) := by decide +kernel
theorem dL_refuses_104 : decode cL_refuses 104 = .ok (.aload_n 0, 1) := by decide +kernel
theorem dL_refuses_105 : decode cL_refuses 105 = .ok (.iconst 0, 1) := by decide +kernel
theorem dL_refuses_106 : decode cL_refuses 106 = .ok (.iconst 3, 1) := by decide +kernel
theorem dL_refuses_107 : decode cL_refuses 107 = .ok (.invokestatic 161, 3) := by decide +kernel
theorem dL_refuses_110 : decode cL_refuses 110 = .ok (.ldc 15, 2) := by decide +kernel
theorem dL_refuses_112 : decode cL_refuses 112 = .ok (.if_icmp .ne 171, 3) := by decide +kernel
theorem dL_refuses_115 : decode cL_refuses 115 = .ok (.aload_n 0, 1) := by decide +kernel
theorem dL_refuses_116 : decode cL_refuses 116 = .ok (.iconst 0, 1) := by decide +kernel
theorem dL_refuses_117 : decode cL_refuses 117 = .ok (.invokestatic 168, 3) := by decide +kernel
theorem dL_refuses_120 : decode cL_refuses 120 = .ok (.ldc 15, 2) := by decide +kernel
theorem dL_refuses_122 : decode cL_refuses 122 = .ok (.if_icmp .ne 161, 3) := by decide +kernel
theorem dL_refuses_125 : decode cL_refuses 125 = .ok (.aload_n 0, 1) := by decide +kernel
theorem dL_refuses_126 : decode cL_refuses 126 = .ok (.sipush 1441, 3) := by decide +kernel
theorem dL_refuses_129 : decode cL_refuses 129 = .ok (.invokestatic 168, 3) := by decide +kernel
theorem dL_refuses_132 : decode cL_refuses 132 = .ok (.ldc 15, 2) := by decide +kernel
theorem dL_refuses_134 : decode cL_refuses 134 = .ok (.if_icmp .ne 149, 3) := by decide +kernel
theorem dL_refuses_137 : decode cL_refuses 137 = .ok (.aload_n 0, 1) := by decide +kernel
theorem dL_refuses_138 : decode cL_refuses 138 = .ok (.bipush 10, 2) := by decide +kernel
theorem dL_refuses_140 : decode cL_refuses 140 = .ok (.invokestatic 171, 3) := by decide +kernel
theorem dL_refuses_143 : decode cL_refuses 143 = .ok (.ldc 15, 2) := by decide +kernel
theorem dL_refuses_145 : decode cL_refuses 145 = .ok (.if_icmp .ne 138, 3) := by decide +kernel
theorem dL_refuses_148 : decode cL_refuses 148 = .ok (.aload_n 0, 1) := by decide +kernel
theorem dL_refuses_149 : decode cL_refuses 149 = .ok (.iconst (-1), 1) := by decide +kernel
theorem dL_refuses_150 : decode cL_refuses 150 = .ok (.invokestatic 174, 3) := by decide +kernel
theorem dL_refuses_153 : decode cL_refuses 153 = .ok (.ldc 15, 2) := by decide +kernel
theorem dL_refuses_155 : decode cL_refuses 155 = .ok (.if_icmp .ne 128, 3) := by decide +kernel
theorem dL_refuses_158 : decode cL_refuses 158 = .ok (.aload_n 0, 1) := by decide +kernel
theorem dL_refuses_159 : decode cL_refuses 159 = .ok (.ldc 177, 2) := by decide +kernel
theorem dL_refuses_161 : decode cL_refuses 161 = .ok (.invokestatic 174, 3) := by decide +kernel
theorem dL_refuses_164 : decode cL_refuses 164 = .ok (.ldc 15, 2) := by decide +kernel
theorem dL_refuses_166 : decode cL_refuses 166 = .ok (.if_icmp .ne 117, 3) := by decide +kernel
theorem dL_refuses_169 : decode cL_refuses 169 = .ok (.aload_n 0, 1) := by decide +kernel
theorem dL_refuses_170 : decode cL_refuses 170 = .ok (.sipush 501, 3) := by decide +kernel
theorem dL_refuses_173 : decode cL_refuses 173 = .ok (.invokestatic 178, 3) := by decide +kernel
theorem dL_refuses_176 : decode cL_refuses 176 = .ok (.ldc 15, 2) := by decide +kernel
theorem dL_refuses_178 : decode cL_refuses 178 = .ok (.if_icmp .ne 105, 3) := by decide +kernel
theorem dL_refuses_181 : decode cL_refuses 181 = .ok (.aload_n 0, 1) := by decide +kernel
theorem dL_refuses_182 : decode cL_refuses 182 = .ok (.sipush (-501), 3) := by decide +kernel
theorem dL_refuses_185 : decode cL_refuses 185 = .ok (.invokestatic 181, 3) := by decide +kernel
theorem dL_refuses_188 : decode cL_refuses 188 = .ok (.ldc 15, 2) := by decide +kernel
theorem dL_refuses_190 : decode cL_refuses 190 = .ok (.if_icmp .ne 93, 3) := by decide +kernel
theorem dL_refuses_193 : decode cL_refuses 193 = .ok (.aload_n 0, 1) := by decide +kernel
theorem dL_refuses_194 : decode cL_refuses 194 = .ok (.bipush 8, 2) := by decide +kernel
theorem dL_refuses_196 : decode cL_refuses 196 = .ok (.sipush 256, 3) := by decide +kernel
theorem dL_refuses_199 : decode cL_refuses 199 = .ok (.invokestatic 184, 3) := by decide +kernel
theorem dL_refuses_202 : decode cL_refuses 202 = .ok (.ldc 31, 2) := by decide +kernel
theorem dL_refuses_204 : decode cL_refuses 204 = .ok (.if_icmp .ne 79, 3) := by decide +kernel
theorem dL_refuses_207 : decode cL_refuses 207 = .ok (.aload_n 0, 1) := by decide +kernel
theorem dL_refuses_208 : decode cL_refuses 208 = .ok (.iconst 0, 1) := by decide +kernel
theorem dL_refuses_209 : decode cL_refuses 209 = .ok (.sipush 256, 3) := by decide +kernel
theorem dL_refuses_212 : decode cL_refuses 212 = .ok (.invokestatic 184, 3) := by decide +kernel
theorem dL_refuses_215 : decode cL_refuses 215 = .ok (.ldc 15, 2) := by decide +kernel
theorem dL_refuses_217 : decode cL_refuses 217 = .ok (.if_icmp .ne 66, 3) := by decide +kernel
theorem dL_refuses_220 : decode cL_refuses 220 = .ok (.aload_n 0, 1) := by decide +kernel
theorem dL_refuses_221 : decode cL_refuses 221 = .ok (.iconst 3, 1) := by decide +kernel
theorem dL_refuses_222 : decode cL_refuses 222 = .ok (.iconst 1, 1) := by decide +kernel
theorem dL_refuses_223 : decode cL_refuses 223 = .ok (.invokestatic 187, 3) := by decide +kernel
theorem dL_refuses_226 : decode cL_refuses 226 = .ok (.ldc 31, 2) := by decide +kernel
theorem dL_refuses_228 : decode cL_refuses 228 = .ok (.if_icmp .ne 55, 3) := by decide +kernel
theorem dL_refuses_231 : decode cL_refuses 231 = .ok (.aload_n 0, 1) := by decide +kernel
theorem dL_refuses_232 : decode cL_refuses 232 = .ok (.iconst (-1), 1) := by decide +kernel
theorem dL_refuses_233 : decode cL_refuses 233 = .ok (.invokestatic 190, 3) := by decide +kernel
theorem dL_refuses_236 : decode cL_refuses 236 = .ok (.ldc 31, 2) := by decide +kernel
theorem dL_refuses_238 : decode cL_refuses 238 = .ok (.if_icmp .ne 45, 3) := by decide +kernel
theorem dL_refuses_241 : decode cL_refuses 241 = .ok (.aload_n 0, 1) := by decide +kernel
theorem dL_refuses_242 : decode cL_refuses 242 = .ok (.iconst 4, 1) := by decide +kernel
theorem dL_refuses_243 : decode cL_refuses 243 = .ok (.sipush 1441, 3) := by decide +kernel
theorem dL_refuses_246 : decode cL_refuses 246 = .ok (.invokestatic 193, 3) := by decide +kernel
theorem dL_refuses_249 : decode cL_refuses 249 = .ok (.ldc 31, 2) := by decide +kernel
theorem dL_refuses_251 : decode cL_refuses 251 = .ok (.if_icmp .ne 32, 3) := by decide +kernel
theorem dL_refuses_254 : decode cL_refuses 254 = .ok (.aload_n 0, 1) := by decide +kernel
theorem dL_refuses_255 : decode cL_refuses 255 = .ok (.iconst 0, 1) := by decide +kernel
theorem dL_refuses_256 : decode cL_refuses 256 = .ok (.sipush 1441, 3) := by decide +kernel
theorem dL_refuses_259 : decode cL_refuses 259 = .ok (.invokestatic 193, 3) := by decide +kernel
theorem dL_refuses_262 : decode cL_refuses 262 = .ok (.ldc 15, 2) := by decide +kernel
theorem dL_refuses_264 : decode cL_refuses 264 = .ok (.if_icmp .ne 19, 3) := by decide +kernel
theorem dL_refuses_267 : decode cL_refuses 267 = .ok (.aload_n 0, 1) := by decide +kernel
theorem dL_refuses_268 : decode cL_refuses 268 = .ok (.sipush 10000, 3) := by decide +kernel
theorem dL_refuses_271 : decode cL_refuses 271 = .ok (.invokestatic 196, 3) := by decide +kernel
theorem dL_refuses_274 : decode cL_refuses 274 = .ok (.ldc 15, 2) := by decide +kernel
theorem dL_refuses_276 : decode cL_refuses 276 = .ok (.if_icmp .ne 7, 3) := by decide +kernel
theorem dL_refuses_279 : decode cL_refuses 279 = .ok (.iconst 1, 1) := by decide +kernel
theorem dL_refuses_280 : decode cL_refuses 280 = .ok (.goto 4, 3) := by decide +kernel
theorem dL_refuses_283 : decode cL_refuses 283 = .ok (.iconst 0, 1) := by decide +kernel
theorem dL_refuses_284 : decode cL_refuses 284 = .ok (.istore_n 3, 1) := by decide +kernel
theorem dL_refuses_285 : decode cL_refuses 285 = .ok (.iload_n 3, 1) := by decide +kernel
theorem dL_refuses_286 : decode cL_refuses 286 = .ok (.ifCond .eq 62, 3) := by decide +kernel
theorem dL_refuses_289 : decode cL_refuses 289 = .ok (.iload_n 2, 1) := by decide +kernel
theorem dL_refuses_290 : decode cL_refuses 290 = .ok (.ifCond .eq 54, 3) := by decide +kernel
theorem dL_refuses_293 : decode cL_refuses 293 = .ok (.aload_n 0, 1) := by decide +kernel
theorem dL_refuses_294 : decode cL_refuses 294 = .ok (.iconst 0, 1) := by decide +kernel
theorem dL_refuses_295 : decode cL_refuses 295 = .ok (.invokestatic 174, 3) := by decide +kernel
theorem dL_refuses_298 : decode cL_refuses 298 = .ok (.ldc 18, 2) := by decide +kernel
theorem dL_refuses_300 : decode cL_refuses 300 = .ok (.if_icmp .ne 48, 3) := by decide +kernel
theorem dL_refuses_303 : decode cL_refuses 303 = .ok (.aload_n 0, 1) := by decide +kernel
theorem dL_refuses_304 : decode cL_refuses 304 = .ok (.iconst 0, 1) := by decide +kernel
theorem dL_refuses_305 : decode cL_refuses 305 = .ok (.invokestatic 178, 3) := by decide +kernel
theorem dL_refuses_308 : decode cL_refuses 308 = .ok (.ldc 18, 2) := by decide +kernel
theorem dL_refuses_310 : decode cL_refuses 310 = .ok (.if_icmp .ne 38, 3) := by decide +kernel
theorem dL_refuses_313 : decode cL_refuses 313 = .ok (.aload_n 0, 1) := by decide +kernel
theorem dL_refuses_314 : decode cL_refuses 314 = .ok (.iconst 0, 1) := by decide +kernel
theorem dL_refuses_315 : decode cL_refuses 315 = .ok (.iconst 0, 1) := by decide +kernel
theorem dL_refuses_316 : decode cL_refuses 316 = .ok (.invokestatic 184, 3) := by decide +kernel
theorem dL_refuses_319 : decode cL_refuses 319 = .ok (.ldc 18, 2) := by decide +kernel
theorem dL_refuses_321 : decode cL_refuses 321 = .ok (.if_icmp .ne 27, 3) := by decide +kernel
theorem dL_refuses_324 : decode cL_refuses 324 = .ok (.aload_n 0, 1) := by decide +kernel
theorem dL_refuses_325 : decode cL_refuses 325 = .ok (.iconst 0, 1) := by decide +kernel
theorem dL_refuses_326 : decode cL_refuses 326 = .ok (.iconst 1, 1) := by decide +kernel
theorem dL_refuses_327 : decode cL_refuses 327 = .ok (.invokestatic 187, 3) := by decide +kernel
theorem dL_refuses_330 : decode cL_refuses 330 = .ok (.ldc 18, 2) := by decide +kernel
theorem dL_refuses_332 : decode cL_refuses 332 = .ok (.if_icmp .ne 16, 3) := by decide +kernel
theorem dL_refuses_335 : decode cL_refuses 335 = .ok (.aload_n 0, 1) := by decide +kernel
theorem dL_refuses_336 : decode cL_refuses 336 = .ok (.invokestatic 199, 3) := by decide +kernel
theorem dL_refuses_339 : decode cL_refuses 339 = .ok (.ldc 18, 2) := by decide +kernel
theorem dL_refuses_341 : decode cL_refuses 341 = .ok (.if_icmp .ne 7, 3) := by decide +kernel
theorem dL_refuses_344 : decode cL_refuses 344 = .ok (.iconst 1, 1) := by decide +kernel
theorem dL_refuses_345 : decode cL_refuses 345 = .ok (.goto 4, 3) := by decide +kernel
theorem dL_refuses_348 : decode cL_refuses 348 = .ok (.iconst 0, 1) := by decide +kernel
theorem dL_refuses_349 : decode cL_refuses 349 = .ok (.istore_n 3, 1) := by decide +kernel
theorem dL_refuses_350 : decode cL_refuses 350 = .ok (.iload_n 3, 1) := by decide +kernel
theorem dL_refuses_351 : decode cL_refuses 351 = .ok (.ifCond .eq 132, 3) := by decide +kernel
theorem dL_refuses_354 : decode cL_refuses 354 = .ok (.aload_n 0, 1) := by decide +kernel
theorem dL_refuses_355 : decode cL_refuses 355 = .ok (.sipush 1441, 3) := by decide +kernel
theorem dL_refuses_358 : decode cL_refuses 358 = .ok (.iconst 0, 1) := by decide +kernel
theorem dL_refuses_359 : decode cL_refuses 359 = .ok (.invokestatic 202, 3) := by decide +kernel
theorem dL_refuses_362 : decode cL_refuses 362 = .ok (.ldc 15, 2) := by decide +kernel
theorem dL_refuses_364 : decode cL_refuses 364 = .ok (.if_icmp .ne 119, 3) := by decide +kernel
theorem dL_refuses_367 : decode cL_refuses 367 = .ok (.aload_n 0, 1) := by decide +kernel
theorem dL_refuses_368 : decode cL_refuses 368 = .ok (.iconst 0, 1) := by decide +kernel
theorem dL_refuses_369 : decode cL_refuses 369 = .ok (.bipush 6, 2) := by decide +kernel
theorem dL_refuses_371 : decode cL_refuses 371 = .ok (.invokestatic 202, 3) := by decide +kernel
theorem dL_refuses_374 : decode cL_refuses 374 = .ok (.ldc 15, 2) := by decide +kernel
theorem dL_refuses_376 : decode cL_refuses 376 = .ok (.if_icmp .ne 107, 3) := by decide +kernel
theorem dL_refuses_379 : decode cL_refuses 379 = .ok (.aload_n 0, 1) := by decide +kernel
theorem dL_refuses_380 : decode cL_refuses 380 = .ok (.iconst 4, 1) := by decide +kernel
theorem dL_refuses_381 : decode cL_refuses 381 = .ok (.invokestatic 205, 3) := by decide +kernel
theorem dL_refuses_384 : decode cL_refuses 384 = .ok (.ldc 31, 2) := by decide +kernel
theorem dL_refuses_386 : decode cL_refuses 386 = .ok (.if_icmp .ne 97, 3) := by decide +kernel
theorem dL_refuses_389 : decode cL_refuses 389 = .ok (.aload_n 0, 1) := by decide +kernel
theorem dL_refuses_390 : decode cL_refuses 390 = .ok (.iconst 0, 1) := by decide +kernel
theorem dL_refuses_391 : decode cL_refuses 391 = .ok (.invokestatic 208, 3) := by decide +kernel
theorem dL_refuses_394 : decode cL_refuses 394 = .ok (.ldc 15, 2) := by decide +kernel
theorem dL_refuses_396 : decode cL_refuses 396 = .ok (.if_icmp .ne 87, 3) := by decide +kernel
theorem dL_refuses_399 : decode cL_refuses 399 = .ok (.aload_n 0, 1) := by decide +kernel
theorem dL_refuses_400 : decode cL_refuses 400 = .ok (.sipush 601, 3) := by decide +kernel
theorem dL_refuses_403 : decode cL_refuses 403 = .ok (.invokestatic 208, 3) := by decide +kernel
theorem dL_refuses_406 : decode cL_refuses 406 = .ok (.ldc 15, 2) := by decide +kernel
theorem dL_refuses_408 : decode cL_refuses 408 = .ok (.if_icmp .ne 75, 3) := by decide +kernel
theorem dL_refuses_411 : decode cL_refuses 411 = .ok (.aload_n 0, 1) := by decide +kernel
theorem dL_refuses_412 : decode cL_refuses 412 = .ok (.iconst 4, 1) := by decide +kernel
theorem dL_refuses_413 : decode cL_refuses 413 = .ok (.lconst 0, 1) := by decide +kernel
theorem dL_refuses_414 : decode cL_refuses 414 = .ok (.invokestatic 211, 3) := by decide +kernel
theorem dL_refuses_417 : decode cL_refuses 417 = .ok (.ldc 15, 2) := by decide +kernel
theorem dL_refuses_419 : decode cL_refuses 419 = .ok (.if_icmp .ne 64, 3) := by decide +kernel
theorem dL_refuses_422 : decode cL_refuses 422 = .ok (.aload_n 0, 1) := by decide +kernel
theorem dL_refuses_423 : decode cL_refuses 423 = .ok (.iconst 1, 1) := by decide +kernel
theorem dL_refuses_424 : decode cL_refuses 424 = .ok (.ldc2_w 215, 3) := by decide +kernel
theorem dL_refuses_427 : decode cL_refuses 427 = .ok (.invokestatic 211, 3) := by decide +kernel
theorem dL_refuses_430 : decode cL_refuses 430 = .ok (.ldc 15, 2) := by decide +kernel
theorem dL_refuses_432 : decode cL_refuses 432 = .ok (.if_icmp .ne 51, 3) := by decide +kernel
theorem dL_refuses_435 : decode cL_refuses 435 = .ok (.aload_n 0, 1) := by decide +kernel
theorem dL_refuses_436 : decode cL_refuses 436 = .ok (.lconst 1, 1) := by decide +kernel
theorem dL_refuses_437 : decode cL_refuses 437 = .ok (.bipush 61, 2) := by decide +kernel
theorem dL_refuses_439 : decode cL_refuses 439 = .ok (.invokestatic 217, 3) := by decide +kernel
theorem dL_refuses_442 : decode cL_refuses 442 = .ok (.ldc 15, 2) := by decide +kernel
theorem dL_refuses_444 : decode cL_refuses 444 = .ok (.if_icmp .ne 39, 3) := by decide +kernel
theorem dL_refuses_447 : decode cL_refuses 447 = .ok (.aload_n 0, 1) := by decide +kernel
theorem dL_refuses_448 : decode cL_refuses 448 = .ok (.iconst 2, 1) := by decide +kernel
theorem dL_refuses_449 : decode cL_refuses 449 = .ok (.invokestatic 221, 3) := by decide +kernel
theorem dL_refuses_452 : decode cL_refuses 452 = .ok (.ldc 31, 2) := by decide +kernel
theorem dL_refuses_454 : decode cL_refuses 454 = .ok (.if_icmp .ne 29, 3) := by decide +kernel
theorem dL_refuses_457 : decode cL_refuses 457 = .ok (.aload_n 0, 1) := by decide +kernel
theorem dL_refuses_458 : decode cL_refuses 458 = .ok (.iconst (-1), 1) := by decide +kernel
theorem dL_refuses_459 : decode cL_refuses 459 = .ok (.invokestatic 155, 3) := by decide +kernel
theorem dL_refuses_462 : decode cL_refuses 462 = .ok (.ldc 31, 2) := by decide +kernel
theorem dL_refuses_464 : decode cL_refuses 464 = .ok (.if_icmp .ne 19, 3) := by decide +kernel
theorem dL_refuses_467 : decode cL_refuses 467 = .ok (.aload_n 0, 1) := by decide +kernel
theorem dL_refuses_468 : decode cL_refuses 468 = .ok (.sipush 256, 3) := by decide +kernel
theorem dL_refuses_471 : decode cL_refuses 471 = .ok (.invokestatic 111, 3) := by decide +kernel
theorem dL_refuses_474 : decode cL_refuses 474 = .ok (.ldc 15, 2) := by decide +kernel
theorem dL_refuses_476 : decode cL_refuses 476 = .ok (.if_icmp .ne 7, 3) := by decide +kernel
theorem dL_refuses_479 : decode cL_refuses 479 = .ok (.iconst 1, 1) := by decide +kernel
theorem dL_refuses_480 : decode cL_refuses 480 = .ok (.goto 4, 3) := by decide +kernel
theorem dL_refuses_483 : decode cL_refuses 483 = .ok (.iconst 0, 1) := by decide +kernel
theorem dL_refuses_484 : decode cL_refuses 484 = .ok (.ireturn, 1) := by decide +kernel
set_option maxRecDepth 20000 in
theorem ggL_sound_L_tryAbout : GoodIn wsL_sound wsL_tryAbout := goodIn_ca (goodIn_r _ [6, 7, 8, 9, 10, 11, 12, 13, 14, 15, 16, 17, 18, 19, 20, 21, 22, 23, 24, 25, 26, 27, 28, 29, 30, 31, 32, 33, 34, 35, 36, 37, 38, 39, 40, 41, 42, 43, 44, 45, 46, 47, 48, 49, 50, 51, 52, 53, 54, 55, 56, 57, 58, 59, 60, 61, 62, 63, 64, 65, 66, 67, 140, 141, 142, 143, 144, 145, 146, 147, 148, 149, 150, 151, 152, 153, 154, 155, 156, 157, 158, 159, 160, 161, 162, 163, 164, 165, 166, 167, 168, 169, 170] rfl (by decide +kernel)) (goodIn_sub (fun _ h => List.mem_cons_of_mem _ (List.mem_append_left _ (List.mem_append_right _ h))) (by decide +kernel))
set_option maxRecDepth 20000 in
theorem gL_sound_L_tryAbout : GoodIn wsL_sound (va_wsS RL 143 yL_tryAbout wsL_tryAbout) := goodIn_app (goodIn_of _ (by decide +kernel)) ggL_sound_L_tryAbout
set_option maxRecDepth 20000 in
theorem ggL_sound_L_account : GoodIn wsL_sound wsL_account := goodIn_ca (goodIn_r _ [70, 7, 71, 72, 73, 74, 12, 75, 14, 76, 77, 78, 79, 80, 15, 16, 17, 18, 19, 140, 141, 142, 143, 144, 145, 146, 147, 148, 149, 150, 158, 159, 160, 161, 151, 152, 153, 154, 155, 156, 157] rfl (by decide +kernel)) (goodIn_sub (fun _ h => List.mem_cons_of_mem _ (List.mem_append_left _ (List.mem_append_right _ h))) (by decide +kernel))
set_option maxRecDepth 20000 in
theorem gL_sound_L_account : GoodIn wsL_sound (va_wsS RL 158 yL_account wsL_account) := goodIn_app (goodIn_of _ (by decide +kernel)) ggL_sound_L_account
set_option maxRecDepth 20000 in
theorem ggL_sound_L_tryAlarm : GoodIn wsL_sound wsL_tryAlarm := goodIn_ca (goodIn_ca (goodIn_r _ [83, 84, 7, 85, 8, 86, 87, 88, 12, 89, 14, 90, 91, 92, 93, 94, 95, 15, 16, 17, 18, 19, 96, 61, 62, 63, 64, 65, 66, 67, 140, 141, 142, 143, 144, 145, 146, 147, 148, 149, 150, 168, 169, 170] rfl (by decide +kernel)) (goodIn_sub (fun _ h => List.mem_cons_of_mem _ (List.mem_append_right _ h)) (by decide +kernel))) (goodIn_sub (fun _ h => List.mem_cons_of_mem _ (List.mem_append_left _ (List.mem_append_right _ h))) (by decide +kernel))
set_option maxRecDepth 20000 in
theorem gL_sound_L_tryAlarm : GoodIn wsL_sound (va_wsS RL 161 yL_tryAlarm wsL_tryAlarm) := goodIn_app (goodIn_of _ (by decide +kernel)) ggL_sound_L_tryAlarm
set_option maxRecDepth 20000 in
theorem ggL_sound_X9_whyNot : GoodIn wsL_sound wsX9_whyNot := goodIn_r _ [100, 14, 76, 101, 44, 45, 46, 47, 48, 49, 140, 141, 142, 143, 144, 145, 146, 147, 148, 149, 150, 158, 159, 160, 161] rfl (by decide +kernel)
set_option maxRecDepth 20000 in
theorem gL_sound_X9_whyNot : GoodIn wsL_sound (wsV RL 224 RX9 yX9_whyNot wsX9_whyNot) := goodIn_app (goodIn_of _ (by decide +kernel)) ggL_sound_X9_whyNot
set_option maxRecDepth 20000 in
theorem ggL_sound_L_size : GoodIn wsL_sound wsL_size := goodIn_r _ [104] rfl (by decide +kernel)
set_option maxRecDepth 20000 in
theorem gL_sound_L_size : GoodIn wsL_sound (va_wsS RL 131 yL_size wsL_size) := goodIn_app (goodIn_of _ (by decide +kernel)) ggL_sound_L_size
set_option maxRecDepth 20000 in
theorem ggL_sound_X9_endsAfter : GoodIn wsL_sound wsX9_endsAfter := goodIn_r _ [108, 14, 76, 109, 110, 111, 46, 112, 113, 49, 114, 44, 45, 47, 48, 140, 141, 142, 143, 144, 145, 146, 147, 148, 149, 150, 158, 159, 160, 161] rfl (by decide +kernel)
set_option maxRecDepth 20000 in
theorem gL_sound_X9_endsAfter : GoodIn wsL_sound (wsV RL 228 RX9 yX9_endsAfter wsX9_endsAfter) := goodIn_app (goodIn_of _ (by decide +kernel)) ggL_sound_X9_endsAfter
set_option maxRecDepth 20000 in
theorem ggL_sound_L_tryRegister : GoodIn wsL_sound wsL_tryRegister := goodIn_ca (goodIn_r _ [117, 84, 85, 118, 119, 120, 12, 121, 14, 122, 91, 92, 93, 94, 95, 140, 141, 142, 143, 144, 145, 146, 147, 148, 149, 150] rfl (by decide +kernel)) (goodIn_sub (fun _ h => List.mem_cons_of_mem _ (List.mem_append_right _ h)) (by decide +kernel))
set_option maxRecDepth 20000 in
theorem gL_sound_L_tryRegister : GoodIn wsL_sound (va_wsS RL 146 yL_tryRegister wsL_tryRegister) := goodIn_app (goodIn_of _ (by decide +kernel)) ggL_sound_L_tryRegister
set_option maxRecDepth 20000 in
theorem ggL_sound_L_tryRow : GoodIn wsL_sound wsL_tryRow := goodIn_ca (goodIn_ca (goodIn_r _ [125, 84, 7, 85, 8, 126, 127, 128, 12, 129, 14, 130, 131, 91, 92, 93, 94, 95, 15, 16, 17, 18, 19, 132, 133, 134, 135, 136, 137, 138, 139, 140, 141, 142, 143, 144, 145, 146, 147, 148, 149, 150, 162, 163, 164, 165, 166, 167] rfl (by decide +kernel)) (goodIn_sub (fun _ h => List.mem_cons_of_mem _ (List.mem_append_right _ h)) (by decide +kernel))) (goodIn_sub (fun _ h => List.mem_cons_of_mem _ (List.mem_append_left _ (List.mem_append_right _ h))) (by decide +kernel))
set_option maxRecDepth 20000 in
theorem gL_sound_L_tryRow : GoodIn wsL_sound (va_wsS RL 165 yL_tryRow wsL_tryRow) := goodIn_app (goodIn_of _ (by decide +kernel)) ggL_sound_L_tryRow
theorem dL_sound_0 : decode cL_sound 0 = .ok (.aload_n 0, 1) := by decide +kernel
theorem dL_sound_1 : decode cL_sound 1 = .ok (.bipush 7, 2) := by decide +kernel
theorem dL_sound_3 : decode cL_sound 3 = .ok (.invokestatic 143, 3) := by decide +kernel
theorem dL_sound_6 : decode cL_sound 6 = .ok (.istore_n 1, 1) := by decide +kernel
theorem dL_sound_7 : decode cL_sound 7 = .ok (.aload_n 0, 1) := by decide +kernel
theorem dL_sound_8 : decode cL_sound 8 = .ok (.bipush 8, 2) := by decide +kernel
theorem dL_sound_10 : decode cL_sound 10 = .ok (.invokestatic 143, 3) := by decide +kernel
theorem dL_sound_13 : decode cL_sound 13 = .ok (.istore_n 2, 1) := by decide +kernel
theorem dL_sound_14 : decode cL_sound 14 = .ok (.iload_n 1, 1) := by decide +kernel
theorem dL_sound_15 : decode cL_sound 15 = .ok (.iconst 5, 1) := by decide +kernel
theorem dL_sound_16 : decode cL_sound 16 = .ok (.if_icmp .le 7, 3) := by decide +kernel
theorem dL_sound_19 : decode cL_sound 19 = .ok (.iconst 0, 1) := by decide +kernel
theorem dL_sound_20 : decode cL_sound 20 = .ok (.goto 21, 3) := by decide +kernel
theorem dL_sound_23 : decode cL_sound 23 = .ok (.iload_n 2, 1) := by decide +kernel
theorem dL_sound_24 : decode cL_sound 24 = .ok (.ifCond .ne 7, 3) := by decide +kernel
theorem dL_sound_27 : decode cL_sound 27 = .ok (.iconst 3, 1) := by decide +kernel
theorem dL_sound_28 : decode cL_sound 28 = .ok (.goto 13, 3) := by decide +kernel
theorem dL_sound_31 : decode cL_sound 31 = .ok (.iload_n 1, 1) := by decide +kernel
theorem dL_sound_32 : decode cL_sound 32 = .ok (.iconst 2, 1) := by decide +kernel
theorem dL_sound_33 : decode cL_sound 33 = .ok (.if_icmp .le 7, 3) := by decide +kernel
theorem dL_sound_36 : decode cL_sound 36 = .ok (.iconst 1, 1) := by decide +kernel
theorem dL_sound_37 : decode cL_sound 37 = .ok (.goto 4, 3) := by decide +kernel
theorem dL_sound_40 : decode cL_sound 40 = .ok (.iconst 2, 1) := by decide +kernel
theorem dL_sound_41 : decode cL_sound 41 = .ok (.istore_n 3, 1) := by decide +kernel
theorem dL_sound_42 : decode cL_sound 42 = .ok (.aload_n 0, 1) := by decide +kernel
theorem dL_sound_43 : decode cL_sound 43 = .ok (.iconst 0, 1) := by decide +kernel
theorem dL_sound_44 : decode cL_sound 44 = .ok (.invokestatic 158, 3) := by decide +kernel
theorem dL_sound_47 : decode cL_sound 47 = .ok (.aload_n 0, 1) := by decide +kernel
theorem dL_sound_48 : decode cL_sound 48 = .ok (.iconst 1, 1) := by decide +kernel
theorem dL_sound_49 : decode cL_sound 49 = .ok (.invokestatic 158, 3) := by decide +kernel
theorem dL_sound_52 : decode cL_sound 52 = .ok (.ladd, 1) := by decide +kernel
theorem dL_sound_53 : decode cL_sound 53 = .ok (.aload_n 0, 1) := by decide +kernel
theorem dL_sound_54 : decode cL_sound 54 = .ok (.iconst 2, 1) := by decide +kernel
theorem dL_sound_55 : decode cL_sound 55 = .ok (.invokestatic 158, 3) := by decide +kernel
theorem dL_sound_58 : decode cL_sound 58 = .ok (.ladd, 1) := by decide +kernel
theorem dL_sound_59 : decode cL_sound 59 = .ok (.aload_n 0, 1) := by decide +kernel
theorem dL_sound_60 : decode cL_sound 60 = .ok (.iconst 3, 1) := by decide +kernel
theorem dL_sound_61 : decode cL_sound 61 = .ok (.invokestatic 158, 3) := by decide +kernel
theorem dL_sound_64 : decode cL_sound 64 = .ok (.ladd, 1) := by decide +kernel
theorem dL_sound_65 : decode cL_sound 65 = .ok (.lstore 4, 2) := by decide +kernel
theorem dL_sound_67 : decode cL_sound 67 = .ok (.iconst 0, 1) := by decide +kernel
theorem dL_sound_68 : decode cL_sound 68 = .ok (.istore 6, 2) := by decide +kernel
theorem dL_sound_70 : decode cL_sound 70 = .ok (.iconst 0, 1) := by decide +kernel
theorem dL_sound_71 : decode cL_sound 71 = .ok (.istore 7, 2) := by decide +kernel
theorem dL_sound_73 : decode cL_sound 73 = .ok (.iconst 0, 1) := by decide +kernel
theorem dL_sound_74 : decode cL_sound 74 = .ok (.istore 8, 2) := by decide +kernel
theorem dL_sound_76 : decode cL_sound 76 = .ok (.iload 8, 2) := by decide +kernel
theorem dL_sound_78 : decode cL_sound 78 = .ok (.iconst 4, 1) := by decide +kernel
theorem dL_sound_79 : decode cL_sound 79 = .ok (.if_icmp .ge 33, 3) := by decide +kernel
theorem dL_sound_82 : decode cL_sound 82 = .ok (.iload 6, 2) := by decide +kernel
theorem dL_sound_84 : decode cL_sound 84 = .ok (.aload_n 0, 1) := by decide +kernel
theorem dL_sound_85 : decode cL_sound 85 = .ok (.iload 8, 2) := by decide +kernel
theorem dL_sound_87 : decode cL_sound 87 = .ok (.iconst 1, 1) := by decide +kernel
theorem dL_sound_88 : decode cL_sound 88 = .ok (.invokestatic 161, 3) := by decide +kernel
theorem dL_sound_91 : decode cL_sound 91 = .ok (.iadd, 1) := by decide +kernel
theorem dL_sound_92 : decode cL_sound 92 = .ok (.istore 6, 2) := by decide +kernel
theorem dL_sound_94 : decode cL_sound 94 = .ok (.iload 7, 2) := by decide +kernel
theorem dL_sound_96 : decode cL_sound 96 = .ok (.aload_n 0, 1) := by decide +kernel
theorem dL_sound_97 : decode cL_sound 97 = .ok (.iload 8, 2) := by decide +kernel
theorem dL_sound_99 : decode cL_sound 99 = .ok (.iconst 2, 1) := by decide +kernel
theorem dL_sound_100 : decode cL_sound 100 = .ok (.invokestatic 161, 3) := by decide +kernel
theorem dL_sound_103 : decode cL_sound 103 = .ok (.iadd, 1) := by decide +kernel
theorem dL_sound_104 : decode cL_sound 104 = .ok (.istore 7, 2) := by decide +kernel
theorem dL_sound_106 : decode cL_sound 106 = .ok (.iinc 8 1, 3) := by decide +kernel
theorem dL_sound_109 : decode cL_sound 109 = .ok (.goto (-33), 3) := by decide +kernel
theorem dL_sound_112 : decode cL_sound 112 = .ok (.aload_n 0, 1) := by decide +kernel
theorem dL_sound_113 : decode cL_sound 113 = .ok (.bipush 9, 2) := by decide +kernel
theorem dL_sound_115 : decode cL_sound 115 = .ok (.invokestatic 143, 3) := by decide +kernel
theorem dL_sound_118 : decode cL_sound 118 = .ok (.iload_n 3, 1) := by decide +kernel
theorem dL_sound_119 : decode cL_sound 119 = .ok (.if_icmp .ne 142, 3) := by decide +kernel
theorem dL_sound_122 : decode cL_sound 122 = .ok (.aload_n 0, 1) := by decide +kernel
theorem dL_sound_123 : decode cL_sound 123 = .ok (.invokevirtual 224, 3) := by decide +kernel
theorem dL_sound_126 : decode cL_sound 126 = .ok (.iload_n 3, 1) := by decide +kernel
theorem dL_sound_127 : decode cL_sound 127 = .ok (.if_icmp .ne 134, 3) := by decide +kernel
theorem dL_sound_130 : decode cL_sound 130 = .ok (.lload 4, 2) := by decide +kernel
theorem dL_sound_132 : decode cL_sound 132 = .ok (.aload_n 0, 1) := by decide +kernel
theorem dL_sound_133 : decode cL_sound 133 = .ok (.iconst 0, 1) := by decide +kernel
theorem dL_sound_134 : decode cL_sound 134 = .ok (.invokestatic 143, 3) := by decide +kernel
theorem dL_sound_137 : decode cL_sound 137 = .ok (.i2l, 1) := by decide +kernel
theorem dL_sound_138 : decode cL_sound 138 = .ok (.lcmp, 1) := by decide +kernel
theorem dL_sound_139 : decode cL_sound 139 = .ok (.ifCond .ne 122, 3) := by decide +kernel
theorem dL_sound_142 : decode cL_sound 142 = .ok (.aload_n 0, 1) := by decide +kernel
theorem dL_sound_143 : decode cL_sound 143 = .ok (.iconst 5, 1) := by decide +kernel
theorem dL_sound_144 : decode cL_sound 144 = .ok (.invokestatic 143, 3) := by decide +kernel
theorem dL_sound_147 : decode cL_sound 147 = .ok (.aload_n 0, 1) := by decide +kernel
theorem dL_sound_148 : decode cL_sound 148 = .ok (.iconst 1, 1) := by decide +kernel
theorem dL_sound_149 : decode cL_sound 149 = .ok (.invokestatic 143, 3) := by decide +kernel
theorem dL_sound_152 : decode cL_sound 152 = .ok (.bipush 60, 2) := by decide +kernel
theorem dL_sound_154 : decode cL_sound 154 = .ok (.aload_n 0, 1) := by decide +kernel
theorem dL_sound_155 : decode cL_sound 155 = .ok (.iconst 0, 1) := by decide +kernel
theorem dL_sound_156 : decode cL_sound 156 = .ok (.invokestatic 143, 3) := by decide +kernel
theorem dL_sound_159 : decode cL_sound 159 = .ok (.imul, 1) := by decide +kernel
theorem dL_sound_160 : decode cL_sound 160 = .ok (.isub, 1) := by decide +kernel
theorem dL_sound_161 : decode cL_sound 161 = .ok (.if_icmp .ne 100, 3) := by decide +kernel
theorem dL_sound_164 : decode cL_sound 164 = .ok (.aload_n 0, 1) := by decide +kernel
theorem dL_sound_165 : decode cL_sound 165 = .ok (.iconst 2, 1) := by decide +kernel
theorem dL_sound_166 : decode cL_sound 166 = .ok (.invokestatic 143, 3) := by decide +kernel
theorem dL_sound_169 : decode cL_sound 169 = .ok (.invokestatic 131, 3) := by decide +kernel
theorem dL_sound_172 : decode cL_sound 172 = .ok (.ldc 227, 2) := by decide +kernel
theorem dL_sound_174 : decode cL_sound 174 = .ok (.if_icmp .ge 87, 3) := by decide +kernel
theorem dL_sound_177 : decode cL_sound 177 = .ok (.iload 6, 2) := by decide +kernel
theorem dL_sound_179 : decode cL_sound 179 = .ok (.aload_n 0, 1) := by decide +kernel
theorem dL_sound_180 : decode cL_sound 180 = .ok (.bipush 13, 2) := by decide +kernel
theorem dL_sound_182 : decode cL_sound 182 = .ok (.invokestatic 143, 3) := by decide +kernel
theorem dL_sound_185 : decode cL_sound 185 = .ok (.if_icmp .ne 76, 3) := by decide +kernel
theorem dL_sound_188 : decode cL_sound 188 = .ok (.iload 7, 2) := by decide +kernel
theorem dL_sound_190 : decode cL_sound 190 = .ok (.aload_n 0, 1) := by decide +kernel
theorem dL_sound_191 : decode cL_sound 191 = .ok (.bipush 12, 2) := by decide +kernel
theorem dL_sound_193 : decode cL_sound 193 = .ok (.invokestatic 143, 3) := by decide +kernel
theorem dL_sound_196 : decode cL_sound 196 = .ok (.if_icmp .ne 65, 3) := by decide +kernel
theorem dL_sound_199 : decode cL_sound 199 = .ok (.iload_n 3, 1) := by decide +kernel
theorem dL_sound_200 : decode cL_sound 200 = .ok (.iconst 1, 1) := by decide +kernel
theorem dL_sound_201 : decode cL_sound 201 = .ok (.if_icmp .eq 13, 3) := by decide +kernel
theorem dL_sound_204 : decode cL_sound 204 = .ok (.iload_n 3, 1) := by decide +kernel
theorem dL_sound_205 : decode cL_sound 205 = .ok (.iconst 2, 1) := by decide +kernel
theorem dL_sound_206 : decode cL_sound 206 = .ok (.if_icmp .eq 8, 3) := by decide +kernel
theorem dL_sound_209 : decode cL_sound 209 = .ok (.iload 6, 2) := by decide +kernel
theorem dL_sound_211 : decode cL_sound 211 = .ok (.ifCond .ne 50, 3) := by decide +kernel
theorem dL_sound_214 : decode cL_sound 214 = .ok (.aload_n 0, 1) := by decide +kernel
theorem dL_sound_215 : decode cL_sound 215 = .ok (.bipush 10, 2) := by decide +kernel
theorem dL_sound_217 : decode cL_sound 217 = .ok (.invokestatic 143, 3) := by decide +kernel
theorem dL_sound_220 : decode cL_sound 220 = .ok (.bipush 6, 2) := by decide +kernel
theorem dL_sound_222 : decode cL_sound 222 = .ok (.if_icmp .gt 39, 3) := by decide +kernel
theorem dL_sound_225 : decode cL_sound 225 = .ok (.aload_n 0, 1) := by decide +kernel
theorem dL_sound_226 : decode cL_sound 226 = .ok (.bipush 10, 2) := by decide +kernel
theorem dL_sound_228 : decode cL_sound 228 = .ok (.invokestatic 143, 3) := by decide +kernel
theorem dL_sound_231 : decode cL_sound 231 = .ok (.aload_n 0, 1) := by decide +kernel
theorem dL_sound_232 : decode cL_sound 232 = .ok (.bipush 11, 2) := by decide +kernel
theorem dL_sound_234 : decode cL_sound 234 = .ok (.invokestatic 143, 3) := by decide +kernel
theorem dL_sound_237 : decode cL_sound 237 = .ok (.if_icmp .gt 24, 3) := by decide +kernel
theorem dL_sound_240 : decode cL_sound 240 = .ok (.aload_n 0, 1) := by decide +kernel
theorem dL_sound_241 : decode cL_sound 241 = .ok (.invokevirtual 228, 3) := by decide +kernel
theorem dL_sound_244 : decode cL_sound 244 = .ok (.iload_n 3, 1) := by decide +kernel
theorem dL_sound_245 : decode cL_sound 245 = .ok (.ifCond .ne 8, 3) := by decide +kernel
theorem dL_sound_248 : decode cL_sound 248 = .ok (.ldc 138, 2) := by decide +kernel
theorem dL_sound_250 : decode cL_sound 250 = .ok (.goto 4, 3) := by decide +kernel
theorem dL_sound_253 : decode cL_sound 253 = .ok (.iload_n 2, 1) := by decide +kernel
theorem dL_sound_254 : decode cL_sound 254 = .ok (.if_icmp .ne 7, 3) := by decide +kernel
theorem dL_sound_257 : decode cL_sound 257 = .ok (.iconst 1, 1) := by decide +kernel
theorem dL_sound_258 : decode cL_sound 258 = .ok (.goto 4, 3) := by decide +kernel
theorem dL_sound_261 : decode cL_sound 261 = .ok (.iconst 0, 1) := by decide +kernel
theorem dL_sound_262 : decode cL_sound 262 = .ok (.istore 8, 2) := by decide +kernel
theorem dL_sound_264 : decode cL_sound 264 = .ok (.iconst 0, 1) := by decide +kernel
theorem dL_sound_265 : decode cL_sound 265 = .ok (.istore 9, 2) := by decide +kernel
theorem dL_sound_267 : decode cL_sound 267 = .ok (.iload 9, 2) := by decide +kernel
theorem dL_sound_269 : decode cL_sound 269 = .ok (.bipush 8, 2) := by decide +kernel
theorem dL_sound_271 : decode cL_sound 271 = .ok (.if_icmp .ge 35, 3) := by decide +kernel
theorem dL_sound_274 : decode cL_sound 274 = .ok (.iload 8, 2) := by decide +kernel
theorem dL_sound_276 : decode cL_sound 276 = .ok (.ifCond .eq 30, 3) := by decide +kernel
theorem dL_sound_279 : decode cL_sound 279 = .ok (.iload_n 3, 1) := by decide +kernel
theorem dL_sound_280 : decode cL_sound 280 = .ok (.iconst 3, 1) := by decide +kernel
theorem dL_sound_281 : decode cL_sound 281 = .ok (.if_icmp .ne 25, 3) := by decide +kernel
theorem dL_sound_284 : decode cL_sound 284 = .ok (.aload_n 0, 1) := by decide +kernel
theorem dL_sound_285 : decode cL_sound 285 = .ok (.iload 9, 2) := by decide +kernel
theorem dL_sound_287 : decode cL_sound 287 = .ok (.invokestatic 146, 3) := by decide +kernel
theorem dL_sound_290 : decode cL_sound 290 = .ok (.ifCond .ne 7, 3) := by decide +kernel
theorem dL_sound_293 : decode cL_sound 293 = .ok (.iconst 1, 1) := by decide +kernel
theorem dL_sound_294 : decode cL_sound 294 = .ok (.goto 4, 3) := by decide +kernel
theorem dL_sound_297 : decode cL_sound 297 = .ok (.iconst 0, 1) := by decide +kernel
theorem dL_sound_298 : decode cL_sound 298 = .ok (.istore 8, 2) := by decide +kernel
theorem dL_sound_300 : decode cL_sound 300 = .ok (.iinc 9 1, 3) := by decide +kernel
theorem dL_sound_303 : decode cL_sound 303 = .ok (.goto (-36), 3) := by decide +kernel
theorem dL_sound_306 : decode cL_sound 306 = .ok (.iconst 0, 1) := by decide +kernel
theorem dL_sound_307 : decode cL_sound 307 = .ok (.istore 9, 2) := by decide +kernel
theorem dL_sound_309 : decode cL_sound 309 = .ok (.iload 9, 2) := by decide +kernel
theorem dL_sound_311 : decode cL_sound 311 = .ok (.aload_n 0, 1) := by decide +kernel
theorem dL_sound_312 : decode cL_sound 312 = .ok (.bipush 10, 2) := by decide +kernel
theorem dL_sound_314 : decode cL_sound 314 = .ok (.invokestatic 143, 3) := by decide +kernel
theorem dL_sound_317 : decode cL_sound 317 = .ok (.if_icmp .ge 63, 3) := by decide +kernel
theorem dL_sound_320 : decode cL_sound 320 = .ok (.iload 8, 2) := by decide +kernel
theorem dL_sound_322 : decode cL_sound 322 = .ok (.ifCond .eq 58, 3) := by decide +kernel
theorem dL_sound_325 : decode cL_sound 325 = .ok (.aload_n 0, 1) := by decide +kernel
theorem dL_sound_326 : decode cL_sound 326 = .ok (.iload 9, 2) := by decide +kernel
theorem dL_sound_328 : decode cL_sound 328 = .ok (.iconst 0, 1) := by decide +kernel
theorem dL_sound_329 : decode cL_sound 329 = .ok (.invokestatic 165, 3) := by decide +kernel
theorem dL_sound_332 : decode cL_sound 332 = .ok (.ifCond .lt 39, 3) := by decide +kernel
theorem dL_sound_335 : decode cL_sound 335 = .ok (.aload_n 0, 1) := by decide +kernel
theorem dL_sound_336 : decode cL_sound 336 = .ok (.iload 9, 2) := by decide +kernel
theorem dL_sound_338 : decode cL_sound 338 = .ok (.iconst 0, 1) := by decide +kernel
theorem dL_sound_339 : decode cL_sound 339 = .ok (.invokestatic 165, 3) := by decide +kernel
theorem dL_sound_342 : decode cL_sound 342 = .ok (.iconst 3, 1) := by decide +kernel
theorem dL_sound_343 : decode cL_sound 343 = .ok (.if_icmp .ge 28, 3) := by decide +kernel
theorem dL_sound_346 : decode cL_sound 346 = .ok (.aload_n 0, 1) := by decide +kernel
theorem dL_sound_347 : decode cL_sound 347 = .ok (.iload 9, 2) := by decide +kernel
theorem dL_sound_349 : decode cL_sound 349 = .ok (.iconst 2, 1) := by decide +kernel
theorem dL_sound_350 : decode cL_sound 350 = .ok (.invokestatic 165, 3) := by decide +kernel
theorem dL_sound_353 : decode cL_sound 353 = .ok (.ifCond .lt 18, 3) := by decide +kernel
theorem dL_sound_356 : decode cL_sound 356 = .ok (.aload_n 0, 1) := by decide +kernel
theorem dL_sound_357 : decode cL_sound 357 = .ok (.iload 9, 2) := by decide +kernel
theorem dL_sound_359 : decode cL_sound 359 = .ok (.iconst 2, 1) := by decide +kernel
theorem dL_sound_360 : decode cL_sound 360 = .ok (.invokestatic 165, 3) := by decide +kernel
theorem dL_sound_363 : decode cL_sound 363 = .ok (.iconst 3, 1) := by decide +kernel
theorem dL_sound_364 : decode cL_sound 364 = .ok (.if_icmp .ge 7, 3) := by decide +kernel
theorem dL_sound_367 : decode cL_sound 367 = .ok (.iconst 1, 1) := by decide +kernel
theorem dL_sound_368 : decode cL_sound 368 = .ok (.goto 4, 3) := by decide +kernel
theorem dL_sound_371 : decode cL_sound 371 = .ok (.iconst 0, 1) := by decide +kernel
theorem dL_sound_372 : decode cL_sound 372 = .ok (.istore 8, 2) := by decide +kernel
theorem dL_sound_374 : decode cL_sound 374 = .ok (.iinc 9 1, 3) := by decide +kernel
theorem dL_sound_377 : decode cL_sound 377 = .ok (.goto (-68), 3) := by decide +kernel
theorem dL_sound_380 : decode cL_sound 380 = .ok (.iload 8, 2) := by decide +kernel
theorem dL_sound_382 : decode cL_sound 382 = .ok (.ifCond .eq 55, 3) := by decide +kernel
theorem dL_sound_385 : decode cL_sound 385 = .ok (.iload_n 3, 1) := by decide +kernel
theorem dL_sound_386 : decode cL_sound 386 = .ok (.iconst 3, 1) := by decide +kernel
theorem dL_sound_387 : decode cL_sound 387 = .ok (.if_icmp .ne 46, 3) := by decide +kernel
theorem dL_sound_390 : decode cL_sound 390 = .ok (.aload_n 0, 1) := by decide +kernel
theorem dL_sound_391 : decode cL_sound 391 = .ok (.iconst 1, 1) := by decide +kernel
theorem dL_sound_392 : decode cL_sound 392 = .ok (.invokestatic 143, 3) := by decide +kernel
theorem dL_sound_395 : decode cL_sound 395 = .ok (.ifCond .ne 42, 3) := by decide +kernel
theorem dL_sound_398 : decode cL_sound 398 = .ok (.aload_n 0, 1) := by decide +kernel
theorem dL_sound_399 : decode cL_sound 399 = .ok (.iconst 2, 1) := by decide +kernel
theorem dL_sound_400 : decode cL_sound 400 = .ok (.invokestatic 143, 3) := by decide +kernel
theorem dL_sound_403 : decode cL_sound 403 = .ok (.ifCond .ne 34, 3) := by decide +kernel
theorem dL_sound_406 : decode cL_sound 406 = .ok (.aload_n 0, 1) := by decide +kernel
theorem dL_sound_407 : decode cL_sound 407 = .ok (.bipush 6, 2) := by decide +kernel
theorem dL_sound_409 : decode cL_sound 409 = .ok (.invokestatic 143, 3) := by decide +kernel
theorem dL_sound_412 : decode cL_sound 412 = .ok (.ifCond .ne 25, 3) := by decide +kernel
theorem dL_sound_415 : decode cL_sound 415 = .ok (.aload_n 0, 1) := by decide +kernel
theorem dL_sound_416 : decode cL_sound 416 = .ok (.bipush 10, 2) := by decide +kernel
theorem dL_sound_418 : decode cL_sound 418 = .ok (.invokestatic 143, 3) := by decide +kernel
theorem dL_sound_421 : decode cL_sound 421 = .ok (.ifCond .ne 16, 3) := by decide +kernel
theorem dL_sound_424 : decode cL_sound 424 = .ok (.aload_n 0, 1) := by decide +kernel
theorem dL_sound_425 : decode cL_sound 425 = .ok (.bipush 14, 2) := by decide +kernel
theorem dL_sound_427 : decode cL_sound 427 = .ok (.invokestatic 143, 3) := by decide +kernel
