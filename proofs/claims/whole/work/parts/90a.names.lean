theorem dL_about_8 : decode cL_about 8 = .ok (.lastore, 1) := by decide +kernel
theorem dL_about_9 : decode cL_about 9 = .ok (.goto 6, 3) := by decide +kernel
theorem dL_about_12 : decode cL_about 12 = .ok (.astore_n 3, 1) := by decide +kernel
theorem dL_about_13 : decode cL_about 13 = .ok (.iconst 1, 1) := by decide +kernel
theorem dL_about_14 : decode cL_about 14 = .ok (.ireturn, 1) := by decide +kernel
theorem dL_about_15 : decode cL_about 15 = .ok (.iconst 0, 1) := by decide +kernel
theorem dL_about_16 : decode cL_about 16 = .ok (.ireturn, 1) := by decide +kernel
set_option maxRecDepth 20000 in
theorem ggL_account_X9_account : GoodIn wsL_account wsX9_account := goodIn_ca (goodIn_r _ [6, 7, 8, 9, 10, 11, 12, 13, 14, 5, 15, 16, 17, 18, 19, 20, 21, 22, 23, 24, 25, 26, 27, 28, 29, 30, 31, 32, 33, 34, 35, 36, 37, 38, 39] (by decide +kernel) (by decide +kernel)) (goodIn_sub (fun _ h => List.mem_cons_of_mem _ (List.mem_append_right _ h)) (by decide +kernel))
set_option maxRecDepth 20000 in
theorem gL_account_X9_account : GoodIn wsL_account (wsV RL 24 RX9 yX9_account wsX9_account) := goodIn_app (goodIn_of _ (by decide +kernel)) ggL_account_X9_account
theorem dL_account_0 : decode cL_account 0 = .ok (.aload_n 2, 1) := by decide +kernel
theorem dL_account_1 : decode cL_account 1 = .ok (.iconst 0, 1) := by decide +kernel
theorem dL_account_2 : decode cL_account 2 = .ok (.aload_n 0, 1) := by decide +kernel
theorem dL_account_3 : decode cL_account 3 = .ok (.iload_n 1, 1) := by decide +kernel
theorem dL_account_4 : decode cL_account 4 = .ok (.invokevirtual 24, 3) := by decide +kernel
theorem dL_account_7 : decode cL_account 7 = .ok (.lastore, 1) := by decide +kernel
theorem dL_account_8 : decode cL_account 8 = .ok (.goto 6, 3) := by decide +kernel
theorem dL_account_11 : decode cL_account 11 = .ok (.astore_n 3, 1) := by decide +kernel
theorem dL_account_12 : decode cL_account 12 = .ok (.iconst 1, 1) := by decide +kernel
theorem dL_account_13 : decode cL_account 13 = .ok (.ireturn, 1) := by decide +kernel
theorem dL_account_14 : decode cL_account 14 = .ok (.iconst 0, 1) := by decide +kernel
theorem dL_account_15 : decode cL_account 15 = .ok (.ireturn, 1) := by decide +kernel
set_option maxRecDepth 20000 in
theorem ggL_register_X9_register : GoodIn wsL_register wsX9_register := goodIn_ca (goodIn_r _ [6, 7, 8, 9, 10, 5, 11, 12, 13, 14, 15, 16, 17, 18, 19, 20, 21, 22, 23, 24] (by decide +kernel) (by decide +kernel)) (goodIn_sub (fun _ h => List.mem_cons_of_mem _ (List.mem_append_right _ h)) (by decide +kernel))
set_option maxRecDepth 20000 in
theorem gL_register_X9_register : GoodIn wsL_register (wsV RL 28 RX9 yX9_register wsX9_register) := goodIn_app (goodIn_of _ (by decide +kernel)) ggL_register_X9_register
theorem dL_register_0 : decode cL_register 0 = .ok (.aload_n 2, 1) := by decide +kernel
theorem dL_register_1 : decode cL_register 1 = .ok (.iconst 0, 1) := by decide +kernel
theorem dL_register_2 : decode cL_register 2 = .ok (.aload_n 0, 1) := by decide +kernel
theorem dL_register_3 : decode cL_register 3 = .ok (.iload_n 1, 1) := by decide +kernel
theorem dL_register_4 : decode cL_register 4 = .ok (.invokevirtual 28, 3) := by decide +kernel
theorem dL_register_7 : decode cL_register 7 = .ok (.i2l, 1) := by decide +kernel
theorem dL_register_8 : decode cL_register 8 = .ok (.lastore, 1) := by decide +kernel
theorem dL_register_9 : decode cL_register 9 = .ok (.goto 6, 3) := by decide +kernel
theorem dL_register_12 : decode cL_register 12 = .ok (.astore_n 3, 1) := by decide +kernel
theorem dL_register_13 : decode cL_register 13 = .ok (.iconst 1, 1) := by decide +kernel
theorem dL_register_14 : decode cL_register 14 = .ok (.ireturn, 1) := by decide +kernel
theorem dL_register_15 : decode cL_register 15 = .ok (.iconst 0, 1) := by decide +kernel
theorem dL_register_16 : decode cL_register 16 = .ok (.ireturn, 1) := by decide +kernel
set_option maxRecDepth 20000 in
theorem ggL_isGuarded_X9_isGuarded : GoodIn wsL_isGuarded wsX9_isGuarded := goodIn_ca (goodIn_r _ [6, 7, 8, 9, 10, 11, 5, 12, 13, 14, 15, 16, 17, 18, 19, 20, 21, 22, 23, 24, 25, 26, 27, 28, 29, 30, 31] (by decide +kernel) (by decide +kernel)) (goodIn_sub (fun _ h => List.mem_cons_of_mem _ (List.mem_append_right _ h)) (by decide +kernel))
set_option maxRecDepth 20000 in
theorem gL_isGuarded_X9_isGuarded : GoodIn wsL_isGuarded (wsV RL 33 RX9 yX9_isGuarded wsX9_isGuarded) := goodIn_app (goodIn_of _ (by decide +kernel)) ggL_isGuarded_X9_isGuarded
theorem dL_isGuarded_0 : decode cL_isGuarded 0 = .ok (.aload_n 2, 1) := by decide +kernel
theorem dL_isGuarded_1 : decode cL_isGuarded 1 = .ok (.iconst 0, 1) := by decide +kernel
theorem dL_isGuarded_2 : decode cL_isGuarded 2 = .ok (.aload_n 0, 1) := by decide +kernel
theorem dL_isGuarded_3 : decode cL_isGuarded 3 = .ok (.iload_n 1, 1) := by decide +kernel
theorem dL_isGuarded_4 : decode cL_isGuarded 4 = .ok (.invokevirtual 33, 3) := by decide +kernel
theorem dL_isGuarded_7 : decode cL_isGuarded 7 = .ok (.ifCond .eq 7, 3) := by decide +kernel
theorem dL_isGuarded_10 : decode cL_isGuarded 10 = .ok (.lconst 1, 1) := by decide +kernel
theorem dL_isGuarded_11 : decode cL_isGuarded 11 = .ok (.goto 4, 3) := by decide +kernel
theorem dL_isGuarded_14 : decode cL_isGuarded 14 = .ok (.lconst 0, 1) := by decide +kernel
theorem dL_isGuarded_15 : decode cL_isGuarded 15 = .ok (.lastore, 1) := by decide +kernel
theorem dL_isGuarded_16 : decode cL_isGuarded 16 = .ok (.goto 6, 3) := by decide +kernel
theorem dL_isGuarded_19 : decode cL_isGuarded 19 = .ok (.astore_n 3, 1) := by decide +kernel
theorem dL_isGuarded_20 : decode cL_isGuarded 20 = .ok (.iconst 1, 1) := by decide +kernel
theorem dL_isGuarded_21 : decode cL_isGuarded 21 = .ok (.ireturn, 1) := by decide +kernel
theorem dL_isGuarded_22 : decode cL_isGuarded 22 = .ok (.iconst 0, 1) := by decide +kernel
theorem dL_isGuarded_23 : decode cL_isGuarded 23 = .ok (.ireturn, 1) := by decide +kernel
set_option maxRecDepth 20000 in
theorem ggL_row_X9_row : GoodIn wsL_row wsX9_row := goodIn_ca (goodIn_ca (goodIn_r _ [7, 8, 9, 10, 11, 12, 6, 13, 14, 15, 16, 17, 18, 19, 20, 21, 22, 23, 24, 25, 26, 27, 28, 29, 30, 31, 32, 33, 34, 35, 36, 37, 38, 39, 40, 41, 42, 43, 44, 45] (by decide +kernel) (by decide +kernel)) (goodIn_sub (fun _ h => List.mem_cons_of_mem _ (List.mem_append_left _ (List.mem_append_right _ h))) (by decide +kernel))) (goodIn_sub (fun _ h => List.mem_cons_of_mem _ (List.mem_append_right _ h)) (by decide +kernel))
set_option maxRecDepth 20000 in
theorem gL_row_X9_row : GoodIn wsL_row (wsV RL 37 RX9 yX9_row wsX9_row) := goodIn_app (goodIn_of _ (by decide +kernel)) ggL_row_X9_row
theorem dL_row_0 : decode cL_row 0 = .ok (.aload_n 3, 1) := by decide +kernel
theorem dL_row_1 : decode cL_row 1 = .ok (.iconst 0, 1) := by decide +kernel
theorem dL_row_2 : decode cL_row 2 = .ok (.aload_n 0, 1) := by decide +kernel
theorem dL_row_3 : decode cL_row 3 = .ok (.iload_n 1, 1) := by decide +kernel
theorem dL_row_4 : decode cL_row 4 = .ok (.iload_n 2, 1) := by decide +kernel
theorem dL_row_5 : decode cL_row 5 = .ok (.invokevirtual 37, 3) := by decide +kernel
theorem dL_row_8 : decode cL_row 8 = .ok (.i2l, 1) := by decide +kernel
theorem dL_row_9 : decode cL_row 9 = .ok (.lastore, 1) := by decide +kernel
theorem dL_row_10 : decode cL_row 10 = .ok (.goto 11, 3) := by decide +kernel
theorem dL_row_13 : decode cL_row 13 = .ok (.astore 4, 2) := by decide +kernel
theorem dL_row_15 : decode cL_row 15 = .ok (.iconst 1, 1) := by decide +kernel
theorem dL_row_16 : decode cL_row 16 = .ok (.ireturn, 1) := by decide +kernel
theorem dL_row_17 : decode cL_row 17 = .ok (.astore 4, 2) := by decide +kernel
theorem dL_row_19 : decode cL_row 19 = .ok (.iconst 2, 1) := by decide +kernel
theorem dL_row_20 : decode cL_row 20 = .ok (.ireturn, 1) := by decide +kernel
theorem dL_row_21 : decode cL_row 21 = .ok (.iconst 0, 1) := by decide +kernel
theorem dL_row_22 : decode cL_row 22 = .ok (.ireturn, 1) := by decide +kernel
set_option maxRecDepth 20000 in
theorem ggL_alarm_X9_alarm : GoodIn wsL_alarm wsX9_alarm := goodIn_ca (goodIn_ca (goodIn_r _ [7, 8, 9, 10, 11, 6, 12, 13, 14, 15, 16, 17, 18, 19, 20, 21, 22, 23, 24, 25, 26, 27, 28, 29, 30, 31, 32, 33, 34, 35, 36, 37, 38, 39, 40, 41] (by decide +kernel) (by decide +kernel)) (goodIn_sub (fun _ h => List.mem_cons_of_mem _ (List.mem_append_left _ (List.mem_append_right _ h))) (by decide +kernel))) (goodIn_sub (fun _ h => List.mem_cons_of_mem _ (List.mem_append_right _ h)) (by decide +kernel))
set_option maxRecDepth 20000 in
theorem gL_alarm_X9_alarm : GoodIn wsL_alarm (wsV RL 41 RX9 yX9_alarm wsX9_alarm) := goodIn_app (goodIn_of _ (by decide +kernel)) ggL_alarm_X9_alarm
theorem dL_alarm_0 : decode cL_alarm 0 = .ok (.aload_n 3, 1) := by decide +kernel
theorem dL_alarm_1 : decode cL_alarm 1 = .ok (.iconst 0, 1) := by decide +kernel
theorem dL_alarm_2 : decode cL_alarm 2 = .ok (.aload_n 0, 1) := by decide +kernel
theorem dL_alarm_3 : decode cL_alarm 3 = .ok (.iload_n 1, 1) := by decide +kernel
theorem dL_alarm_4 : decode cL_alarm 4 = .ok (.iload_n 2, 1) := by decide +kernel
theorem dL_alarm_5 : decode cL_alarm 5 = .ok (.invokevirtual 41, 3) := by decide +kernel
theorem dL_alarm_8 : decode cL_alarm 8 = .ok (.i2l, 1) := by decide +kernel
theorem dL_alarm_9 : decode cL_alarm 9 = .ok (.lastore, 1) := by decide +kernel
theorem dL_alarm_10 : decode cL_alarm 10 = .ok (.goto 11, 3) := by decide +kernel
theorem dL_alarm_13 : decode cL_alarm 13 = .ok (.astore 4, 2) := by decide +kernel
theorem dL_alarm_15 : decode cL_alarm 15 = .ok (.iconst 1, 1) := by decide +kernel
theorem dL_alarm_16 : decode cL_alarm 16 = .ok (.ireturn, 1) := by decide +kernel
theorem dL_alarm_17 : decode cL_alarm 17 = .ok (.astore 4, 2) := by decide +kernel
theorem dL_alarm_19 : decode cL_alarm 19 = .ok (.iconst 2, 1) := by decide +kernel
theorem dL_alarm_20 : decode cL_alarm 20 = .ok (.ireturn, 1) := by decide +kernel
theorem dL_alarm_21 : decode cL_alarm 21 = .ok (.iconst 0, 1) := by decide +kernel
theorem dL_alarm_22 : decode cL_alarm 22 = .ok (.ireturn, 1) := by decide +kernel
set_option maxRecDepth 20000 in
theorem ggL_pass_X9_pass : GoodIn wsL_pass wsX9_pass := goodIn_ca (goodIn_r _ [6, 7, 8, 9, 10, 11, 12, 5, 13, 14, 15, 16, 17, 18, 19, 20, 21, 22, 23, 24, 25, 26, 27, 28, 29, 30, 31, 32, 33, 34, 35, 36, 37, 38, 39, 40, 41, 42, 43, 44, 45, 46, 47, 48, 49, 50, 51, 52, 53, 54, 55, 56, 57, 58, 59, 60, 61, 62, 63, 64, 65, 66, 67, 68, 69, 70, 71, 72, 73, 74, 75, 76, 77, 78, 79, 80, 81, 82, 83, 84, 85, 86, 87, 88, 89, 90, 91, 92, 93, 94, 95, 96, 97, 98, 99, 100, 101, 102, 103, 104, 105, 106, 107, 108, 109, 110, 111, 112, 113, 114, 115, 116, 117, 118, 119, 120, 121, 122, 123, 124, 125, 126, 127, 128, 129, 130, 131, 132, 133, 134, 135, 136, 137, 138, 139, 140, 141, 142, 143, 144, 145, 146, 147, 148, 149, 150, 151, 152, 153, 154, 155, 156, 157, 158, 159, 160, 161, 162, 163, 164, 165, 166, 167, 168, 169, 170, 171, 172, 173, 174, 175, 176, 177, 178, 179, 180, 181] (by decide +kernel) (by decide +kernel)) (goodIn_sub (fun _ h => List.mem_cons_of_mem _ (List.mem_append_right _ h)) (by decide +kernel))
set_option maxRecDepth 20000 in
theorem gL_pass_X9_pass : GoodIn wsL_pass (wsV RL 44 RX9 yX9_pass wsX9_pass) := goodIn_app (goodIn_of _ (by decide +kernel)) ggL_pass_X9_pass
theorem dL_pass_0 : decode cL_pass 0 = .ok (.aload_n 2, 1) := by decide +kernel
theorem dL_pass_1 : decode cL_pass 1 = .ok (.iconst 0, 1) := by decide +kernel
theorem dL_pass_2 : decode cL_pass 2 = .ok (.aload_n 0, 1) := by decide +kernel
theorem dL_pass_3 : decode cL_pass 3 = .ok (.iload_n 1, 1) := by decide +kernel
theorem dL_pass_4 : decode cL_pass 4 = .ok (.invokevirtual 44, 3) := by decide +kernel
theorem dL_pass_7 : decode cL_pass 7 = .ok (.i2l, 1) := by decide +kernel
theorem dL_pass_8 : decode cL_pass 8 = .ok (.lastore, 1) := by decide +kernel
theorem dL_pass_9 : decode cL_pass 9 = .ok (.goto 6, 3) := by decide +kernel
theorem dL_pass_12 : decode cL_pass 12 = .ok (.astore_n 3, 1) := by decide +kernel
theorem dL_pass_13 : decode cL_pass 13 = .ok (.iconst 1, 1) := by decide +kernel
theorem dL_pass_14 : decode cL_pass 14 = .ok (.ireturn, 1) := by decide +kernel
theorem dL_pass_15 : decode cL_pass 15 = .ok (.iconst 0, 1) := by decide +kernel
theorem dL_pass_16 : decode cL_pass 16 = .ok (.ireturn, 1) := by decide +kernel
set_option maxRecDepth 20000 in
theorem ggL_level_X9_level : GoodIn wsL_level wsX9_level := goodIn_ca (goodIn_r _ [6, 7, 8, 9, 10, 11, 5, 12, 13, 14, 15, 16, 17, 18, 19, 20, 21, 22, 23, 24, 25, 26, 27, 28, 29, 30, 31, 32, 33, 34, 35, 36, 37, 38, 39, 40, 41, 42, 43, 44, 45, 46, 47, 48, 49, 50, 51, 52, 53, 54, 55, 56, 57, 58, 59, 60, 61, 62, 63, 64, 65, 66, 67, 68, 69, 70, 71, 72, 73, 74, 75, 76, 77, 78, 79, 80, 81, 82, 83, 84, 85, 86, 87, 88, 89, 90, 91, 92, 93, 94, 95, 96, 97, 98, 99, 100, 101, 102, 103, 104, 105, 106, 107, 108, 109, 110, 111, 112, 113, 114, 115, 116, 117, 118, 119, 120, 121, 122, 123, 124, 125, 126, 127, 128, 129, 130, 131, 132, 133, 134, 135, 136, 137, 138, 139, 140, 141, 142, 143, 144, 145, 146, 147, 148, 149, 150, 151, 152] (by decide +kernel) (by decide +kernel)) (goodIn_sub (fun _ h => List.mem_cons_of_mem _ (List.mem_append_right _ h)) (by decide +kernel))
set_option maxRecDepth 20000 in
theorem gL_level_X9_level : GoodIn wsL_level (wsV RL 47 RX9 yX9_level wsX9_level) := goodIn_app (goodIn_of _ (by decide +kernel)) ggL_level_X9_level
theorem dL_level_0 : decode cL_level 0 = .ok (.aload_n 2, 1) := by decide +kernel
theorem dL_level_1 : decode cL_level 1 = .ok (.iconst 0, 1) := by decide +kernel
theorem dL_level_2 : decode cL_level 2 = .ok (.aload_n 0, 1) := by decide +kernel
theorem dL_level_3 : decode cL_level 3 = .ok (.iload_n 1, 1) := by decide +kernel
theorem dL_level_4 : decode cL_level 4 = .ok (.invokevirtual 47, 3) := by decide +kernel
theorem dL_level_7 : decode cL_level 7 = .ok (.i2l, 1) := by decide +kernel
theorem dL_level_8 : decode cL_level 8 = .ok (.lastore, 1) := by decide +kernel
theorem dL_level_9 : decode cL_level 9 = .ok (.goto 6, 3) := by decide +kernel
theorem dL_level_12 : decode cL_level 12 = .ok (.astore_n 3, 1) := by decide +kernel
theorem dL_level_13 : decode cL_level 13 = .ok (.iconst 1, 1) := by decide +kernel
theorem dL_level_14 : decode cL_level 14 = .ok (.ireturn, 1) := by decide +kernel
theorem dL_level_15 : decode cL_level 15 = .ok (.iconst 0, 1) := by decide +kernel
theorem dL_level_16 : decode cL_level 16 = .ok (.ireturn, 1) := by decide +kernel
set_option maxRecDepth 20000 in
theorem ggL_setTime_X9_setTime : GoodIn wsL_setTime wsX9_setTime := goodIn_ca (goodIn_ca (goodIn_r _ [7, 8, 9, 10, 11, 12, 13, 14, 6, 15, 16, 17, 18, 19, 20, 21, 22, 23, 24, 25, 26, 27, 28, 29, 30, 31, 32, 33, 34, 35, 36, 37, 38, 39, 40, 41, 42, 43, 44, 45, 46, 47, 48, 49, 50, 51, 52, 53, 54, 55, 56, 57, 58, 59, 60, 61, 62, 63, 64, 65, 66, 67, 68, 69, 70, 71, 72, 73, 74, 75, 76, 77, 78, 79, 80, 81, 82, 83, 84, 85, 86, 87, 88, 89, 90, 91, 92, 93, 94, 95, 96, 97, 98, 99, 100, 101, 102, 103, 104, 105, 106, 107, 108, 109, 110, 111, 112, 113, 114, 115, 116, 117, 118, 119, 120, 121, 122, 123, 124, 125, 126, 127, 128, 129, 130, 131, 132, 133, 134, 135, 136] (by decide +kernel) (by decide +kernel)) (goodIn_sub (fun _ h => List.mem_cons_of_mem _ (List.mem_append_left _ (List.mem_append_right _ h))) (by decide +kernel))) (goodIn_sub (fun _ h => List.mem_cons_of_mem _ (List.mem_append_right _ h)) (by decide +kernel))
set_option maxRecDepth 20000 in
theorem gL_setTime_X9_setTime : GoodIn wsL_setTime (wsV RL 50 RX9 yX9_setTime wsX9_setTime) := goodIn_app (goodIn_of _ (by decide +kernel)) ggL_setTime_X9_setTime
theorem dL_setTime_0 : decode cL_setTime 0 = .ok (.aload_n 2, 1) := by decide +kernel
theorem dL_setTime_1 : decode cL_setTime 1 = .ok (.iconst 0, 1) := by decide +kernel
theorem dL_setTime_2 : decode cL_setTime 2 = .ok (.aload_n 0, 1) := by decide +kernel
theorem dL_setTime_3 : decode cL_setTime 3 = .ok (.iload_n 1, 1) := by decide +kernel
theorem dL_setTime_4 : decode cL_setTime 4 = .ok (.invokevirtual 50, 3) := by decide +kernel
theorem dL_setTime_7 : decode cL_setTime 7 = .ok (.i2l, 1) := by decide +kernel
theorem dL_setTime_8 : decode cL_setTime 8 = .ok (.lastore, 1) := by decide +kernel
theorem dL_setTime_9 : decode cL_setTime 9 = .ok (.goto 9, 3) := by decide +kernel
theorem dL_setTime_12 : decode cL_setTime 12 = .ok (.astore_n 3, 1) := by decide +kernel
theorem dL_setTime_13 : decode cL_setTime 13 = .ok (.iconst 1, 1) := by decide +kernel
theorem dL_setTime_14 : decode cL_setTime 14 = .ok (.ireturn, 1) := by decide +kernel
theorem dL_setTime_15 : decode cL_setTime 15 = .ok (.astore_n 3, 1) := by decide +kernel
theorem dL_setTime_16 : decode cL_setTime 16 = .ok (.iconst 2, 1) := by decide +kernel
theorem dL_setTime_17 : decode cL_setTime 17 = .ok (.ireturn, 1) := by decide +kernel
theorem dL_setTime_18 : decode cL_setTime 18 = .ok (.iconst 0, 1) := by decide +kernel
theorem dL_setTime_19 : decode cL_setTime 19 = .ok (.ireturn, 1) := by decide +kernel
set_option maxRecDepth 20000 in
theorem ggL_correct_X9_correct : GoodIn wsL_correct wsX9_correct := goodIn_ca (goodIn_ca (goodIn_r _ [7, 8, 9, 10, 11, 12, 13, 6, 14, 15, 16, 17, 18, 19, 20, 21, 22, 23, 24, 25, 26, 27, 28, 29, 30, 31, 32, 33, 34, 35, 36, 37, 38, 39, 40, 41, 42, 43, 44, 45, 46, 47, 48, 49, 50, 51, 52, 53, 54, 55, 56, 57, 58, 59, 60, 61, 62, 63, 64, 65, 66, 67, 68, 69, 70, 71, 72, 73, 74, 75, 76, 77, 78, 79, 80, 81, 82, 83, 84, 85, 86, 87, 88, 89, 90, 91, 92, 93, 94, 95, 96, 97, 98, 99, 100, 101, 102, 103, 104, 105, 106, 107, 108, 109, 110, 111, 112, 113, 114, 115, 116, 117, 118, 119, 120, 121, 122, 123, 124, 125, 126, 127, 128, 129, 130, 131] (by decide +kernel) (by decide +kernel)) (goodIn_sub (fun _ h => List.mem_cons_of_mem _ (List.mem_append_left _ (List.mem_append_right _ h))) (by decide +kernel))) (goodIn_sub (fun _ h => List.mem_cons_of_mem _ (List.mem_append_right _ h)) (by decide +kernel))
set_option maxRecDepth 20000 in
theorem gL_correct_X9_correct : GoodIn wsL_correct (wsV RL 53 RX9 yX9_correct wsX9_correct) := goodIn_app (goodIn_of _ (by decide +kernel)) ggL_correct_X9_correct
theorem dL_correct_0 : decode cL_correct 0 = .ok (.aload_n 2, 1) := by decide +kernel
theorem dL_correct_1 : decode cL_correct 1 = .ok (.iconst 0, 1) := by decide +kernel
theorem dL_correct_2 : decode cL_correct 2 = .ok (.aload_n 0, 1) := by decide +kernel
theorem dL_correct_3 : decode cL_correct 3 = .ok (.iload_n 1, 1) := by decide +kernel
theorem dL_correct_4 : decode cL_correct 4 = .ok (.invokevirtual 53, 3) := by decide +kernel
theorem dL_correct_7 : decode cL_correct 7 = .ok (.i2l, 1) := by decide +kernel
theorem dL_correct_8 : decode cL_correct 8 = .ok (.lastore, 1) := by decide +kernel
theorem dL_correct_9 : decode cL_correct 9 = .ok (.goto 9, 3) := by decide +kernel
theorem dL_correct_12 : decode cL_correct 12 = .ok (.astore_n 3, 1) := by decide +kernel
theorem dL_correct_13 : decode cL_correct 13 = .ok (.iconst 1, 1) := by decide +kernel
theorem dL_correct_14 : decode cL_correct 14 = .ok (.ireturn, 1) := by decide +kernel
theorem dL_correct_15 : decode cL_correct 15 = .ok (.astore_n 3, 1) := by decide +kernel
theorem dL_correct_16 : decode cL_correct 16 = .ok (.iconst 2, 1) := by decide +kernel
theorem dL_correct_17 : decode cL_correct 17 = .ok (.ireturn, 1) := by decide +kernel
theorem dL_correct_18 : decode cL_correct 18 = .ok (.iconst 0, 1) := by decide +kernel
theorem dL_correct_19 : decode cL_correct 19 = .ok (.ireturn, 1) := by decide +kernel
set_option maxRecDepth 20000 in
theorem ggL_age_X9_age : GoodIn wsL_age wsX9_age := goodIn_ca (goodIn_r _ [6, 7, 8, 9, 10, 11, 12, 5, 13, 14, 15, 16, 17, 18, 19, 20, 21, 22, 23, 24, 25, 26, 27, 28, 29, 30, 31, 32, 33, 34, 35, 36, 37, 38, 39, 40, 41, 42, 43, 44, 45, 46, 47, 48, 49, 50, 51, 52, 53, 54, 55, 56, 57, 58, 59, 60, 61, 62, 63, 64, 65, 66, 67, 68, 69, 70, 71, 72, 73, 74, 75, 76, 77, 78, 79, 80, 81, 82, 83, 84, 85, 86, 87, 88, 89, 90, 91, 92, 93, 94, 95, 96, 97, 98, 99, 100, 101, 102, 103, 104, 105, 106, 107, 108, 109, 110, 111, 112, 113, 114, 115, 116] (by decide +kernel) (by decide +kernel)) (goodIn_sub (fun _ h => List.mem_cons_of_mem _ (List.mem_append_right _ h)) (by decide +kernel))
set_option maxRecDepth 20000 in
theorem gL_age_X9_age : GoodIn wsL_age (wsV RL 56 RX9 yX9_age wsX9_age) := goodIn_app (goodIn_of _ (by decide +kernel)) ggL_age_X9_age
theorem dL_age_0 : decode cL_age 0 = .ok (.aload_n 2, 1) := by decide +kernel
theorem dL_age_1 : decode cL_age 1 = .ok (.iconst 0, 1) := by decide +kernel
theorem dL_age_2 : decode cL_age 2 = .ok (.aload_n 0, 1) := by decide +kernel
theorem dL_age_3 : decode cL_age 3 = .ok (.iload_n 1, 1) := by decide +kernel
theorem dL_age_4 : decode cL_age 4 = .ok (.invokevirtual 56, 3) := by decide +kernel
theorem dL_age_7 : decode cL_age 7 = .ok (.i2l, 1) := by decide +kernel
theorem dL_age_8 : decode cL_age 8 = .ok (.lastore, 1) := by decide +kernel
theorem dL_age_9 : decode cL_age 9 = .ok (.goto 6, 3) := by decide +kernel
theorem dL_age_12 : decode cL_age 12 = .ok (.astore_n 3, 1) := by decide +kernel
theorem dL_age_13 : decode cL_age 13 = .ok (.iconst 1, 1) := by decide +kernel
theorem dL_age_14 : decode cL_age 14 = .ok (.ireturn, 1) := by decide +kernel
theorem dL_age_15 : decode cL_age 15 = .ok (.iconst 0, 1) := by decide +kernel
theorem dL_age_16 : decode cL_age 16 = .ok (.ireturn, 1) := by decide +kernel
set_option maxRecDepth 20000 in
theorem ggL_write_X9_write : GoodIn wsL_write wsX9_write := goodIn_ca (goodIn_ca (goodIn_ca (goodIn_r _ [8, 9, 10, 11, 12, 13, 7, 14, 15, 16, 17, 18, 19, 20, 21, 22, 23, 24, 25, 26, 27, 28, 29, 30, 31, 32, 33, 34, 35, 36, 37, 38, 39, 40, 41, 42, 43, 44, 45, 46, 47, 48, 49, 50, 51, 52, 53, 54, 55, 56, 57, 58, 59, 60, 61, 62, 63, 64, 65, 66, 67, 68, 69, 70, 71, 72, 73, 74, 75, 76, 77, 78, 79, 80, 81, 82, 83, 84, 85, 86, 87, 88, 89, 90, 91, 92, 93, 94, 95, 96, 97, 98, 99, 100, 101, 102, 103, 104, 105, 106, 107, 108, 109, 110, 111, 112, 113, 114, 115, 116, 117, 118, 119, 120, 121, 122, 123, 124, 125, 126, 127, 128, 129, 130, 131, 132, 133, 134, 135, 136] (by decide +kernel) (by decide +kernel)) (goodIn_sub (fun _ h => List.mem_cons_of_mem _ (List.mem_append_left _ (List.mem_append_left _ (List.mem_append_right _ h)))) (by decide +kernel))) (goodIn_sub (fun _ h => List.mem_cons_of_mem _ (List.mem_append_left _ (List.mem_append_right _ h))) (by decide +kernel))) (goodIn_sub (fun _ h => List.mem_cons_of_mem _ (List.mem_append_right _ h)) (by decide +kernel))
set_option maxRecDepth 20000 in
theorem gL_write_X9_write : GoodIn wsL_write (wsV RL 59 RX9 yX9_write wsX9_write) := goodIn_app (goodIn_of _ (by decide +kernel)) ggL_write_X9_write
theorem dL_write_0 : decode cL_write 0 = .ok (.aload_n 3, 1) := by decide +kernel
theorem dL_write_1 : decode cL_write 1 = .ok (.iconst 0, 1) := by decide +kernel
theorem dL_write_2 : decode cL_write 2 = .ok (.aload_n 0, 1) := by decide +kernel
theorem dL_write_3 : decode cL_write 3 = .ok (.iload_n 1, 1) := by decide +kernel
theorem dL_write_4 : decode cL_write 4 = .ok (.iload_n 2, 1) := by decide +kernel
theorem dL_write_5 : decode cL_write 5 = .ok (.invokevirtual 59, 3) := by decide +kernel
theorem dL_write_8 : decode cL_write 8 = .ok (.i2l, 1) := by decide +kernel
theorem dL_write_9 : decode cL_write 9 = .ok (.lastore, 1) := by decide +kernel
theorem dL_write_10 : decode cL_write 10 = .ok (.goto 15, 3) := by decide +kernel
theorem dL_write_13 : decode cL_write 13 = .ok (.astore 4, 2) := by decide +kernel
theorem dL_write_15 : decode cL_write 15 = .ok (.iconst 1, 1) := by decide +kernel
theorem dL_write_16 : decode cL_write 16 = .ok (.ireturn, 1) := by decide +kernel
theorem dL_write_17 : decode cL_write 17 = .ok (.astore 4, 2) := by decide +kernel
theorem dL_write_19 : decode cL_write 19 = .ok (.iconst 2, 1) := by decide +kernel
theorem dL_write_20 : decode cL_write 20 = .ok (.ireturn, 1) := by decide +kernel
theorem dL_write_21 : decode cL_write 21 = .ok (.astore 4, 2) := by decide +kernel
theorem dL_write_23 : decode cL_write 23 = .ok (.iconst 3, 1) := by decide +kernel
theorem dL_write_24 : decode cL_write 24 = .ok (.ireturn, 1) := by decide +kernel
theorem dL_write_25 : decode cL_write 25 = .ok (.iconst 0, 1) := by decide +kernel
theorem dL_write_26 : decode cL_write 26 = .ok (.ireturn, 1) := by decide +kernel
set_option maxRecDepth 20000 in
theorem ggL_guard_X9_guard : GoodIn wsL_guard wsX9_guard := goodIn_ca (goodIn_ca (goodIn_r _ [7, 8, 9, 10, 11, 12, 13, 6, 14, 15, 16, 17, 18, 19, 20, 21, 22, 23, 24, 25, 26, 27, 28, 29, 30, 31, 32, 33, 34, 35, 36, 37, 38, 39, 40, 41, 42, 43, 44, 45, 46, 47, 48, 49, 50, 51, 52, 53, 54, 55, 56, 57, 58, 59, 60, 61, 62, 63, 64, 65, 66, 67, 68, 69, 70, 71, 72, 73, 74, 75, 76, 77, 78, 79, 80, 81, 82, 83, 84, 85, 86, 87, 88, 89, 90, 91, 92, 93, 94, 95, 96, 97, 98, 99, 100, 101, 102, 103, 104, 105, 106, 107, 108, 109, 110, 111, 112, 113, 114, 115, 116, 117, 118, 119, 120, 121, 122, 123, 124, 125, 126, 127, 128, 129, 130, 131, 132, 133, 134, 135] (by decide +kernel) (by decide +kernel)) (goodIn_sub (fun _ h => List.mem_cons_of_mem _ (List.mem_append_left _ (List.mem_append_right _ h))) (by decide +kernel))) (goodIn_sub (fun _ h => List.mem_cons_of_mem _ (List.mem_append_right _ h)) (by decide +kernel))
set_option maxRecDepth 20000 in
theorem gL_guard_X9_guard : GoodIn wsL_guard (wsV RL 62 RX9 yX9_guard wsX9_guard) := goodIn_app (goodIn_of _ (by decide +kernel)) ggL_guard_X9_guard
theorem dL_guard_0 : decode cL_guard 0 = .ok (.aload_n 3, 1) := by decide +kernel
theorem dL_guard_1 : decode cL_guard 1 = .ok (.iconst 0, 1) := by decide +kernel
theorem dL_guard_2 : decode cL_guard 2 = .ok (.aload_n 0, 1) := by decide +kernel
theorem dL_guard_3 : decode cL_guard 3 = .ok (.iload_n 1, 1) := by decide +kernel
theorem dL_guard_4 : decode cL_guard 4 = .ok (.iload_n 2, 1) := by decide +kernel
theorem dL_guard_5 : decode cL_guard 5 = .ok (.invokevirtual 62, 3) := by decide +kernel
theorem dL_guard_8 : decode cL_guard 8 = .ok (.i2l, 1) := by decide +kernel
theorem dL_guard_9 : decode cL_guard 9 = .ok (.lastore, 1) := by decide +kernel
theorem dL_guard_10 : decode cL_guard 10 = .ok (.goto 11, 3) := by decide +kernel
theorem dL_guard_13 : decode cL_guard 13 = .ok (.astore 4, 2) := by decide +kernel
theorem dL_guard_15 : decode cL_guard 15 = .ok (.iconst 1, 1) := by decide +kernel
theorem dL_guard_16 : decode cL_guard 16 = .ok (.ireturn, 1) := by decide +kernel
theorem dL_guard_17 : decode cL_guard 17 = .ok (.astore 4, 2) := by decide +kernel
theorem dL_guard_19 : decode cL_guard 19 = .ok (.iconst 2, 1) := by decide +kernel
theorem dL_guard_20 : decode cL_guard 20 = .ok (.ireturn, 1) := by decide +kernel
theorem dL_guard_21 : decode cL_guard 21 = .ok (.iconst 0, 1) := by decide +kernel
theorem dL_guard_22 : decode cL_guard 22 = .ok (.ireturn, 1) := by decide +kernel
set_option maxRecDepth 20000 in
theorem ggL_tamper_X9_tamper : GoodIn wsL_tamper wsX9_tamper := goodIn_ca (goodIn_r _ [6, 7, 8, 9, 10, 11, 12, 5, 13, 14, 15, 16, 17, 18, 19, 20, 21, 22, 23, 24, 25, 26, 27, 28, 29, 30, 31, 32, 33, 34, 35, 36, 37, 38, 39, 40, 41, 42, 43, 44, 45, 46, 47, 48, 49, 50, 51, 52, 53, 54, 55, 56, 57, 58, 59, 60, 61, 62, 63, 64, 65, 66, 67, 68, 69, 70, 71, 72, 73, 74, 75, 76, 77, 78, 79, 80, 81, 82, 83, 84, 85, 86, 87, 88, 89, 90, 91, 92, 93, 94, 95, 96, 97, 98, 99, 100, 101, 102, 103, 104, 105, 106, 107, 108, 109, 110, 111, 112, 113, 114, 115, 116, 117, 118, 119, 120, 121, 122, 123, 124, 125, 126, 127, 128, 129, 130, 131, 132, 133, 134] (by decide +kernel) (by decide +kernel)) (goodIn_sub (fun _ h => List.mem_cons_of_mem _ (List.mem_append_right _ h)) (by decide +kernel))
set_option maxRecDepth 20000 in
theorem gL_tamper_X9_tamper : GoodIn wsL_tamper (wsV RL 66 RX9 yX9_tamper wsX9_tamper) := goodIn_app (goodIn_of _ (by decide +kernel)) ggL_tamper_X9_tamper
theorem dL_tamper_0 : decode cL_tamper 0 = .ok (.aload_n 2, 1) := by decide +kernel
theorem dL_tamper_1 : decode cL_tamper 1 = .ok (.iconst 0, 1) := by decide +kernel
theorem dL_tamper_2 : decode cL_tamper 2 = .ok (.aload_n 0, 1) := by decide +kernel
theorem dL_tamper_3 : decode cL_tamper 3 = .ok (.iload_n 1, 1) := by decide +kernel
theorem dL_tamper_4 : decode cL_tamper 4 = .ok (.invokevirtual 66, 3) := by decide +kernel
theorem dL_tamper_7 : decode cL_tamper 7 = .ok (.i2l, 1) := by decide +kernel
theorem dL_tamper_8 : decode cL_tamper 8 = .ok (.lastore, 1) := by decide +kernel
theorem dL_tamper_9 : decode cL_tamper 9 = .ok (.goto 6, 3) := by decide +kernel
theorem dL_tamper_12 : decode cL_tamper 12 = .ok (.astore_n 3, 1) := by decide +kernel
theorem dL_tamper_13 : decode cL_tamper 13 = .ok (.iconst 1, 1) := by decide +kernel
theorem dL_tamper_14 : decode cL_tamper 14 = .ok (.ireturn, 1) := by decide +kernel
theorem dL_tamper_15 : decode cL_tamper 15 = .ok (.iconst 0, 1) := by decide +kernel
theorem dL_tamper_16 : decode cL_tamper 16 = .ok (.ireturn, 1) := by decide +kernel
set_option maxRecDepth 20000 in
theorem ggL_clearRows_X9_clearRows : GoodIn wsL_clearRows wsX9_clearRows := goodIn_ca (goodIn_r _ [6, 7, 8, 9, 10, 11, 12, 13, 5, 14, 15, 16, 17, 18, 19, 20, 21, 22, 23, 24, 25, 26, 27, 28, 29, 30, 31, 32, 33, 34, 35, 36, 37, 38, 39, 40, 41, 42, 43, 44, 45, 46, 47, 48, 49, 50, 51, 52, 53, 54, 55, 56, 57, 58, 59, 60, 61, 62, 63, 64, 65, 66, 67, 68, 69, 70, 71, 72, 73, 74, 75, 76, 77, 78, 79, 80, 81, 82, 83, 84, 85, 86, 87, 88, 89, 90, 91, 92, 93, 94, 95, 96, 97, 98, 99, 100, 101, 102, 103, 104, 105, 106, 107, 108, 109, 110, 111, 112, 113, 114, 115, 116, 117, 118, 119, 120, 121, 122, 123, 124, 125] (by decide +kernel) (by decide +kernel)) (goodIn_sub (fun _ h => List.mem_cons_of_mem _ (List.mem_append_right _ h)) (by decide +kernel))
set_option maxRecDepth 20000 in
theorem gL_clearRows_X9_clearRows : GoodIn wsL_clearRows (wsV RL 69 RX9 yX9_clearRows wsX9_clearRows) := goodIn_app (goodIn_of _ (by decide +kernel)) ggL_clearRows_X9_clearRows
theorem dL_clearRows_0 : decode cL_clearRows 0 = .ok (.aload_n 1, 1) := by decide +kernel
theorem dL_clearRows_1 : decode cL_clearRows 1 = .ok (.iconst 0, 1) := by decide +kernel
theorem dL_clearRows_2 : decode cL_clearRows 2 = .ok (.aload_n 0, 1) := by decide +kernel
theorem dL_clearRows_3 : decode cL_clearRows 3 = .ok (.invokevirtual 69, 3) := by decide +kernel
theorem dL_clearRows_6 : decode cL_clearRows 6 = .ok (.i2l, 1) := by decide +kernel
theorem dL_clearRows_7 : decode cL_clearRows 7 = .ok (.lastore, 1) := by decide +kernel
theorem dL_clearRows_8 : decode cL_clearRows 8 = .ok (.goto 6, 3) := by decide +kernel
theorem dL_clearRows_11 : decode cL_clearRows 11 = .ok (.astore_n 2, 1) := by decide +kernel
theorem dL_clearRows_12 : decode cL_clearRows 12 = .ok (.iconst 1, 1) := by decide +kernel
theorem dL_clearRows_13 : decode cL_clearRows 13 = .ok (.ireturn, 1) := by decide +kernel
theorem dL_clearRows_14 : decode cL_clearRows 14 = .ok (.iconst 0, 1) := by decide +kernel
theorem dL_clearRows_15 : decode cL_clearRows 15 = .ok (.ireturn, 1) := by decide +kernel
set_option maxRecDepth 20000 in
theorem ggL_setAlarm_X9_setAlarm : GoodIn wsL_setAlarm wsX9_setAlarm := goodIn_ca (goodIn_ca (goodIn_r _ [7, 8, 9, 10, 11, 12, 13, 14, 6, 15, 16, 17, 18, 19, 20, 21, 22, 23, 24, 25, 26, 27, 28, 29, 30, 31, 32, 33, 34, 35, 36, 37, 38, 39, 40, 41, 42, 43, 44, 45, 46, 47, 48, 49, 50, 51, 52, 53, 54, 55, 56, 57, 58, 59, 60, 61, 62, 63, 64, 65, 66, 67, 68, 69, 70, 71, 72, 73, 74, 75, 76, 77, 78, 79, 80, 81, 82, 83, 84, 85, 86, 87, 88, 89, 90, 91, 92, 93, 94, 95, 96, 97, 98, 99, 100, 101, 102, 103, 104, 105, 106, 107, 108, 109, 110, 111, 112, 113, 114, 115, 116, 117, 118, 119, 120, 121, 122, 123, 124, 125, 126, 127] (by decide +kernel) (by decide +kernel)) (goodIn_sub (fun _ h => List.mem_cons_of_mem _ (List.mem_append_left _ (List.mem_append_right _ h))) (by decide +kernel))) (goodIn_sub (fun _ h => List.mem_cons_of_mem _ (List.mem_append_right _ h)) (by decide +kernel))
set_option maxRecDepth 20000 in
theorem gL_setAlarm_X9_setAlarm : GoodIn wsL_setAlarm (wsV RL 72 RX9 yX9_setAlarm wsX9_setAlarm) := goodIn_app (goodIn_of _ (by decide +kernel)) ggL_setAlarm_X9_setAlarm
theorem dL_setAlarm_0 : decode cL_setAlarm 0 = .ok (.aload_n 3, 1) := by decide +kernel
theorem dL_setAlarm_1 : decode cL_setAlarm 1 = .ok (.iconst 0, 1) := by decide +kernel
theorem dL_setAlarm_2 : decode cL_setAlarm 2 = .ok (.aload_n 0, 1) := by decide +kernel
theorem dL_setAlarm_3 : decode cL_setAlarm 3 = .ok (.iload_n 1, 1) := by decide +kernel
theorem dL_setAlarm_4 : decode cL_setAlarm 4 = .ok (.iload_n 2, 1) := by decide +kernel
theorem dL_setAlarm_5 : decode cL_setAlarm 5 = .ok (.invokevirtual 72, 3) := by decide +kernel
theorem dL_setAlarm_8 : decode cL_setAlarm 8 = .ok (.i2l, 1) := by decide +kernel
theorem dL_setAlarm_9 : decode cL_setAlarm 9 = .ok (.lastore, 1) := by decide +kernel
theorem dL_setAlarm_10 : decode cL_setAlarm 10 = .ok (.goto 11, 3) := by decide +kernel
theorem dL_setAlarm_13 : decode cL_setAlarm 13 = .ok (.astore 4, 2) := by decide +kernel
theorem dL_setAlarm_15 : decode cL_setAlarm 15 = .ok (.iconst 1, 1) := by decide +kernel
theorem dL_setAlarm_16 : decode cL_setAlarm 16 = .ok (.ireturn, 1) := by decide +kernel
theorem dL_setAlarm_17 : decode cL_setAlarm 17 = .ok (.astore 4, 2) := by decide +kernel
theorem dL_setAlarm_19 : decode cL_setAlarm 19 = .ok (.iconst 2, 1) := by decide +kernel
theorem dL_setAlarm_20 : decode cL_setAlarm 20 = .ok (.ireturn, 1) := by decide +kernel
theorem dL_setAlarm_21 : decode cL_setAlarm 21 = .ok (.iconst 0, 1) := by decide +kernel
theorem dL_setAlarm_22 : decode cL_setAlarm 22 = .ok (.ireturn, 1) := by decide +kernel
set_option maxRecDepth 20000 in
theorem ggL_battery_X9_battery : GoodIn wsL_battery wsX9_battery := goodIn_ca (goodIn_r _ [6, 7, 8, 9, 10, 11, 5, 12, 13, 14, 15, 16, 17, 18, 19, 20, 21, 22, 23, 24, 25, 26, 27, 28, 29, 30, 31, 32, 33, 34, 35, 36, 37, 38, 39, 40, 41, 42, 43, 44, 45, 46, 47, 48, 49, 50, 51, 52, 53, 54, 55, 56, 57, 58, 59, 60, 61, 62, 63, 64, 65, 66, 67, 68, 69, 70, 71, 72, 73, 74, 75, 76, 77, 78, 79, 80, 81, 82, 83, 84, 85, 86, 87, 88, 89, 90, 91, 92, 93, 94, 95, 96, 97, 98, 99, 100, 101, 102, 103, 104, 105, 106, 107, 108, 109, 110, 111, 112, 113, 114, 115, 116, 117, 118, 119, 120, 121, 122, 123, 124, 125, 126, 127, 128, 129, 130, 131, 132, 133, 134, 135, 136, 137, 138, 139, 140, 141, 142, 143, 144, 145, 146, 147, 148, 149, 150, 151, 152] (by decide +kernel) (by decide +kernel)) (goodIn_sub (fun _ h => List.mem_cons_of_mem _ (List.mem_append_right _ h)) (by decide +kernel))
set_option maxRecDepth 20000 in
theorem gL_battery_X9_battery : GoodIn wsL_battery (wsV RL 75 RX9 yX9_battery wsX9_battery) := goodIn_app (goodIn_of _ (by decide +kernel)) ggL_battery_X9_battery
theorem dL_battery_0 : decode cL_battery 0 = .ok (.aload_n 2, 1) := by decide +kernel
theorem dL_battery_1 : decode cL_battery 1 = .ok (.iconst 0, 1) := by decide +kernel
theorem dL_battery_2 : decode cL_battery 2 = .ok (.aload_n 0, 1) := by decide +kernel
theorem dL_battery_3 : decode cL_battery 3 = .ok (.iload_n 1, 1) := by decide +kernel
theorem dL_battery_4 : decode cL_battery 4 = .ok (.invokevirtual 75, 3) := by decide +kernel
theorem dL_battery_7 : decode cL_battery 7 = .ok (.i2l, 1) := by decide +kernel
theorem dL_battery_8 : decode cL_battery 8 = .ok (.lastore, 1) := by decide +kernel
theorem dL_battery_9 : decode cL_battery 9 = .ok (.goto 6, 3) := by decide +kernel
theorem dL_battery_12 : decode cL_battery 12 = .ok (.astore_n 3, 1) := by decide +kernel
theorem dL_battery_13 : decode cL_battery 13 = .ok (.iconst 1, 1) := by decide +kernel
theorem dL_battery_14 : decode cL_battery 14 = .ok (.ireturn, 1) := by decide +kernel
theorem dL_battery_15 : decode cL_battery 15 = .ok (.iconst 0, 1) := by decide +kernel
theorem dL_battery_16 : decode cL_battery 16 = .ok (.ireturn, 1) := by decide +kernel
set_option maxRecDepth 20000 in
theorem ggL_undo_X9_undo : GoodIn wsL_undo wsX9_undo := goodIn_ca (goodIn_r _ [6, 7, 8, 9, 10, 11, 12, 13, 14, 15, 16, 17, 18, 19, 20, 21, 22, 23, 24, 25, 26, 27, 28, 29, 30, 31, 32, 33, 34, 35, 36, 37, 38, 39, 40, 41, 42, 43, 44, 45, 46, 47, 48, 49, 50, 51, 52, 53, 54, 55, 56, 57, 58, 59, 60, 61, 62, 63, 64, 65, 66, 67, 68, 69, 70, 71, 72, 73, 74, 75, 76, 77, 78, 79, 80, 81, 82, 83, 84, 85, 86, 87, 88, 89, 90, 91, 92, 93, 94, 95, 96, 97, 98, 99, 100, 101, 102, 103, 104, 105, 106, 107, 108] (by decide +kernel) (by decide +kernel)) (goodIn_sub (fun _ h => List.mem_cons_of_mem _ (List.mem_append_right _ h)) (by decide +kernel))
set_option maxRecDepth 20000 in
theorem gL_undo_X9_undo : GoodIn wsL_undo (wsV RL 78 RX9 yX9_undo wsX9_undo) := goodIn_app (goodIn_of _ (by decide +kernel)) ggL_undo_X9_undo
theorem dL_undo_0 : decode cL_undo 0 = .ok (.aload_n 1, 1) := by decide +kernel
theorem dL_undo_1 : decode cL_undo 1 = .ok (.iconst 0, 1) := by decide +kernel
theorem dL_undo_2 : decode cL_undo 2 = .ok (.aload_n 0, 1) := by decide +kernel
theorem dL_undo_3 : decode cL_undo 3 = .ok (.invokevirtual 78, 3) := by decide +kernel
theorem dL_undo_6 : decode cL_undo 6 = .ok (.i2l, 1) := by decide +kernel
theorem dL_undo_7 : decode cL_undo 7 = .ok (.lastore, 1) := by decide +kernel
theorem dL_undo_8 : decode cL_undo 8 = .ok (.goto 6, 3) := by decide +kernel
theorem dL_undo_11 : decode cL_undo 11 = .ok (.astore_n 2, 1) := by decide +kernel
theorem dL_undo_12 : decode cL_undo 12 = .ok (.iconst 1, 1) := by decide +kernel
theorem dL_undo_13 : decode cL_undo 13 = .ok (.ireturn, 1) := by decide +kernel
theorem dL_undo_14 : decode cL_undo 14 = .ok (.iconst 0, 1) := by decide +kernel
theorem dL_undo_15 : decode cL_undo 15 = .ok (.ireturn, 1) := by decide +kernel
set_option maxRecDepth 20000 in
theorem ggL_ahead_X9_ahead : GoodIn wsL_ahead wsX9_ahead := goodIn_ca (goodIn_r _ [6, 7, 8, 9, 10, 11, 5, 12, 13, 14, 15, 16, 17, 18, 19, 20, 21, 22, 23, 24, 25, 26, 27, 28, 29, 30, 31, 32, 33, 34, 35, 36, 37, 38, 39, 40, 41, 42, 43, 44, 45, 46, 47, 48, 49, 50, 51, 52, 53, 54, 55, 56, 57, 58, 59, 60, 61, 62, 63, 64, 65, 66, 67, 68, 69, 70, 71, 72, 73, 74, 75, 76, 77, 78, 79, 80, 81, 82, 83, 84, 85, 86, 87, 88, 89, 90, 91, 92, 93, 94, 95, 96, 97, 98, 99, 100, 101, 102, 103, 104, 105, 106, 107, 108, 109, 110, 111, 112, 113, 114, 115, 116, 117, 118, 119, 120, 121, 122, 123, 124, 125, 126, 127, 128, 129, 130, 131, 132, 133, 134, 135, 136, 137, 138, 139, 140, 141, 142, 143, 144, 145, 146, 147, 148, 149, 150, 151, 152, 153, 154, 155, 156, 157, 158, 159, 160, 161, 162, 163, 164, 165, 166, 167, 168, 169, 170, 171, 172, 173, 174, 175, 176, 177, 178, 179, 180, 181, 182, 183, 184, 185, 186, 187, 188, 189, 190, 191, 192, 193, 194, 195, 196] (by decide +kernel) (by decide +kernel)) (goodIn_sub (fun _ h => List.mem_cons_of_mem _ (List.mem_append_right _ h)) (by decide +kernel))
set_option maxRecDepth 20000 in
theorem gL_ahead_X9_ahead : GoodIn wsL_ahead (wsV RL 81 RX9 yX9_ahead wsX9_ahead) := goodIn_app (goodIn_of _ (by decide +kernel)) ggL_ahead_X9_ahead
theorem dL_ahead_0 : decode cL_ahead 0 = .ok (.aload_n 3, 1) := by decide +kernel
theorem dL_ahead_1 : decode cL_ahead 1 = .ok (.iconst 0, 1) := by decide +kernel
theorem dL_ahead_2 : decode cL_ahead 2 = .ok (.aload_n 0, 1) := by decide +kernel
theorem dL_ahead_3 : decode cL_ahead 3 = .ok (.iload_n 1, 1) := by decide +kernel
theorem dL_ahead_4 : decode cL_ahead 4 = .ok (.iload_n 2, 1) := by decide +kernel
theorem dL_ahead_5 : decode cL_ahead 5 = .ok (.invokevirtual 81, 3) := by decide +kernel
theorem dL_ahead_8 : decode cL_ahead 8 = .ok (.i2l, 1) := by decide +kernel
theorem dL_ahead_9 : decode cL_ahead 9 = .ok (.lastore, 1) := by decide +kernel
theorem dL_ahead_10 : decode cL_ahead 10 = .ok (.goto 7, 3) := by decide +kernel
theorem dL_ahead_13 : decode cL_ahead 13 = .ok (.astore 4, 2) := by decide +kernel
theorem dL_ahead_15 : decode cL_ahead 15 = .ok (.iconst 1, 1) := by decide +kernel
theorem dL_ahead_16 : decode cL_ahead 16 = .ok (.ireturn, 1) := by decide +kernel
theorem dL_ahead_17 : decode cL_ahead 17 = .ok (.iconst 0, 1) := by decide +kernel
theorem dL_ahead_18 : decode cL_ahead 18 = .ok (.ireturn, 1) := by decide +kernel
set_option maxRecDepth 20000 in
theorem ggL_dueAfter_X9_dueAfter : GoodIn wsL_dueAfter wsX9_dueAfter := goodIn_ca (goodIn_r _ [6, 7, 8, 9, 10, 11, 12, 13, 5, 14, 15, 16, 17, 18, 19, 20, 21, 22, 23, 24, 25, 26, 27, 28, 29, 30, 31, 32, 33, 34, 35, 36, 37, 38, 39, 40, 41, 42, 43, 44, 45, 46, 47, 48, 49, 50, 51, 52, 53, 54, 55, 56, 57, 58, 59, 60, 61, 62, 63, 64, 65, 66, 67, 68, 69, 70, 71, 72, 73, 74, 75, 76, 77, 78, 79, 80, 81, 82, 83, 84, 85, 86, 87, 88, 89, 90, 91, 92, 93, 94, 95, 96, 97, 98, 99, 100, 101, 102, 103, 104, 105, 106, 107, 108, 109, 110, 111, 112, 113, 114, 115, 116, 117, 118, 119, 120, 121, 122, 123, 124, 125, 126, 127, 128, 129, 130, 131, 132, 133, 134, 135, 136, 137, 138, 139, 140, 141, 142, 143, 144, 145, 146, 147, 148, 149, 150, 151, 152, 153, 154, 155, 156, 157, 158, 159, 160, 161, 162, 163, 164, 165, 166, 167] (by decide +kernel) (by decide +kernel)) (goodIn_sub (fun _ h => List.mem_cons_of_mem _ (List.mem_append_right _ h)) (by decide +kernel))
set_option maxRecDepth 20000 in
theorem gL_dueAfter_X9_dueAfter : GoodIn wsL_dueAfter (wsV RL 84 RX9 yX9_dueAfter wsX9_dueAfter) := goodIn_app (goodIn_of _ (by decide +kernel)) ggL_dueAfter_X9_dueAfter
theorem dL_dueAfter_0 : decode cL_dueAfter 0 = .ok (.aload_n 2, 1) := by decide +kernel
theorem dL_dueAfter_1 : decode cL_dueAfter 1 = .ok (.iconst 0, 1) := by decide +kernel
theorem dL_dueAfter_2 : decode cL_dueAfter 2 = .ok (.aload_n 0, 1) := by decide +kernel
theorem dL_dueAfter_3 : decode cL_dueAfter 3 = .ok (.iload_n 1, 1) := by decide +kernel
theorem dL_dueAfter_4 : decode cL_dueAfter 4 = .ok (.invokevirtual 84, 3) := by decide +kernel
theorem dL_dueAfter_7 : decode cL_dueAfter 7 = .ok (.i2l, 1) := by decide +kernel
theorem dL_dueAfter_8 : decode cL_dueAfter 8 = .ok (.lastore, 1) := by decide +kernel
theorem dL_dueAfter_9 : decode cL_dueAfter 9 = .ok (.goto 6, 3) := by decide +kernel
theorem dL_dueAfter_12 : decode cL_dueAfter 12 = .ok (.astore_n 3, 1) := by decide +kernel
theorem dL_dueAfter_13 : decode cL_dueAfter 13 = .ok (.iconst 1, 1) := by decide +kernel
theorem dL_dueAfter_14 : decode cL_dueAfter 14 = .ok (.ireturn, 1) := by decide +kernel
theorem dL_dueAfter_15 : decode cL_dueAfter 15 = .ok (.iconst 0, 1) := by decide +kernel
theorem dL_dueAfter_16 : decode cL_dueAfter 16 = .ok (.ireturn, 1) := by decide +kernel
set_option maxRecDepth 20000 in
theorem ggL_bestCorrection_X9_bestCorrection : GoodIn wsL_bestCorrection wsX9_bestCorrection := goodIn_ca (goodIn_r _ [6, 7, 8, 9, 5, 10, 11, 12, 13, 14, 15, 16, 17, 18, 19, 20, 21, 22, 23, 24, 25, 26, 27, 28, 29, 30, 31, 32, 33, 34, 35, 36, 37, 38, 39, 40, 41, 42, 43, 44, 45, 46, 47, 48, 49, 50, 51, 52, 53, 54, 55, 56, 57, 58, 59, 60, 61, 62, 63, 64, 65, 66, 67, 68, 69, 70, 71, 72, 73, 74, 75, 76, 77, 78, 79, 80] (by decide +kernel) (by decide +kernel)) (goodIn_sub (fun _ h => List.mem_cons_of_mem _ (List.mem_append_right _ h)) (by decide +kernel))
set_option maxRecDepth 20000 in
theorem gL_bestCorrection_X9_bestCorrection : GoodIn wsL_bestCorrection (wsV RL 87 RX9 yX9_bestCorrection wsX9_bestCorrection) := goodIn_app (goodIn_of _ (by decide +kernel)) ggL_bestCorrection_X9_bestCorrection
theorem dL_bestCorrection_0 : decode cL_bestCorrection 0 = .ok (.aload_n 2, 1) := by decide +kernel
theorem dL_bestCorrection_1 : decode cL_bestCorrection 1 = .ok (.iconst 0, 1) := by decide +kernel
theorem dL_bestCorrection_2 : decode cL_bestCorrection 2 = .ok (.aload_n 0, 1) := by decide +kernel
theorem dL_bestCorrection_3 : decode cL_bestCorrection 3 = .ok (.iload_n 1, 1) := by decide +kernel
theorem dL_bestCorrection_4 : decode cL_bestCorrection 4 = .ok (.invokevirtual 87, 3) := by decide +kernel
theorem dL_bestCorrection_7 : decode cL_bestCorrection 7 = .ok (.i2l, 1) := by decide +kernel
theorem dL_bestCorrection_8 : decode cL_bestCorrection 8 = .ok (.lastore, 1) := by decide +kernel
theorem dL_bestCorrection_9 : decode cL_bestCorrection 9 = .ok (.goto 6, 3) := by decide +kernel
theorem dL_bestCorrection_12 : decode cL_bestCorrection 12 = .ok (.astore_n 3, 1) := by decide +kernel
theorem dL_bestCorrection_13 : decode cL_bestCorrection 13 = .ok (.iconst 1, 1) := by decide +kernel
theorem dL_bestCorrection_14 : decode cL_bestCorrection 14 = .ok (.ireturn, 1) := by decide +kernel
theorem dL_bestCorrection_15 : decode cL_bestCorrection 15 = .ok (.iconst 0, 1) := by decide +kernel
theorem dL_bestCorrection_16 : decode cL_bestCorrection 16 = .ok (.ireturn, 1) := by decide +kernel
set_option maxRecDepth 20000 in
theorem ggL_runScript_X9_runScript : GoodIn wsL_runScript wsX9_runScript := goodIn_ca (goodIn_r _ [6, 7, 8, 9, 10, 11, 12, 13, 5, 14, 15, 16, 17, 18, 19, 20, 21, 22, 23, 24, 25, 26, 27, 28, 29, 30, 31, 32, 33, 34, 35, 36, 37, 38, 39, 40, 41, 42, 43, 44, 45, 46, 47, 48, 49, 50, 51, 52, 53, 54, 55, 56, 57, 58, 59, 60, 61, 62, 63, 64, 65, 66, 67, 68, 69, 70, 71, 72, 73, 74, 75, 76, 77, 78, 79, 80, 81, 82, 83, 84, 85, 86, 87, 88, 89, 90, 91, 92, 93, 94, 95, 96, 97, 98, 99, 100, 101, 102, 103, 104, 105, 106, 107, 108, 109, 110, 111, 112, 113, 114, 115, 116, 117, 118, 119, 120, 121, 122, 123, 124, 125, 126, 127, 128, 129, 130, 131, 132, 133, 134, 135, 136, 137, 138, 139, 140, 141, 142, 143, 144, 145, 146, 147, 148, 149, 150, 151, 152, 153, 154, 155, 156, 157, 158, 159, 160, 161, 162, 163, 164, 165, 166, 167, 168, 169, 170, 171, 172, 173, 174, 175, 176, 177, 178, 179, 180, 181, 182, 183, 184, 185, 186, 187, 188, 189, 190, 191, 192, 193, 194, 195, 196, 197, 198, 199, 200, 201, 202, 203, 204, 205, 206, 207, 208, 209, 210, 211, 212, 213, 214, 215, 216, 217, 218, 219, 220, 221, 222, 223, 224, 225, 226, 227, 228, 229, 230, 231, 232, 233] (by decide +kernel) (by decide +kernel)) (goodIn_sub (fun _ h => List.mem_cons_of_mem _ (List.mem_append_right _ h)) (by decide +kernel))
set_option maxRecDepth 20000 in
theorem gL_runScript_X9_runScript : GoodIn wsL_runScript (wsV RL 90 RX9 yX9_runScript wsX9_runScript) := goodIn_app (goodIn_of _ (by decide +kernel)) ggL_runScript_X9_runScript
theorem dL_runScript_0 : decode cL_runScript 0 = .ok (.aload 4, 2) := by decide +kernel
theorem dL_runScript_2 : decode cL_runScript 2 = .ok (.iconst 0, 1) := by decide +kernel
theorem dL_runScript_3 : decode cL_runScript 3 = .ok (.aload_n 0, 1) := by decide +kernel
theorem dL_runScript_4 : decode cL_runScript 4 = .ok (.iload_n 1, 1) := by decide +kernel
theorem dL_runScript_5 : decode cL_runScript 5 = .ok (.lload_n 2, 1) := by decide +kernel
theorem dL_runScript_6 : decode cL_runScript 6 = .ok (.invokevirtual 90, 3) := by decide +kernel
theorem dL_runScript_9 : decode cL_runScript 9 = .ok (.i2l, 1) := by decide +kernel
theorem dL_runScript_10 : decode cL_runScript 10 = .ok (.lastore, 1) := by decide +kernel
theorem dL_runScript_11 : decode cL_runScript 11 = .ok (.goto 7, 3) := by decide +kernel
theorem dL_runScript_14 : decode cL_runScript 14 = .ok (.astore 5, 2) := by decide +kernel
theorem dL_runScript_16 : decode cL_runScript 16 = .ok (.iconst 1, 1) := by decide +kernel
theorem dL_runScript_17 : decode cL_runScript 17 = .ok (.ireturn, 1) := by decide +kernel
theorem dL_runScript_18 : decode cL_runScript 18 = .ok (.iconst 0, 1) := by decide +kernel
theorem dL_runScript_19 : decode cL_runScript 19 = .ok (.ireturn, 1) := by decide +kernel
set_option maxRecDepth 20000 in
theorem ggL_simulate_X9_simulate : GoodIn wsL_simulate wsX9_simulate := goodIn_ca (goodIn_r _ [6, 7, 8, 9, 10, 11, 12, 13, 14, 15, 16, 5, 17, 18, 19, 20, 21, 22, 23, 24, 25, 26, 27, 28, 29, 30, 31, 32, 33, 34, 35, 36, 37, 38, 39, 40, 41, 42, 43, 44, 45, 46, 47, 48, 49, 50, 51, 52, 53, 54, 55, 56, 57, 58, 59, 60, 61, 62, 63, 64, 65, 66, 67, 68, 69, 70, 71, 72, 73, 74, 75, 76, 77, 78, 79, 80, 81, 82, 83, 84, 85, 86, 87, 88, 89, 90, 91, 92, 93, 94, 95, 96, 97, 98, 99, 100, 101, 102, 103, 104, 105, 106, 107, 108, 109, 110, 111, 112, 113, 114, 115, 116, 117, 118, 119, 120, 121, 122, 123, 124, 125, 126, 127, 128, 129, 130, 131, 132, 133, 134, 135, 136, 137, 138, 139, 140, 141, 142, 143, 144, 145, 146, 147, 148, 149, 150, 151, 152, 153, 154, 155, 156, 157, 158, 159, 160, 161, 162, 163, 164, 165, 166, 167, 168, 169, 170, 171, 172, 173, 174, 175, 176, 177, 178, 179, 180, 181, 182, 183, 184, 185, 186, 187, 188] (by decide +kernel) (by decide +kernel)) (goodIn_sub (fun _ h => List.mem_cons_of_mem _ (List.mem_append_right _ h)) (by decide +kernel))
set_option maxRecDepth 20000 in
theorem gL_simulate_X9_simulate : GoodIn wsL_simulate (wsV RL 94 RX9 yX9_simulate wsX9_simulate) := goodIn_app (goodIn_of _ (by decide +kernel)) ggL_simulate_X9_simulate
theorem dL_simulate_0 : decode cL_simulate 0 = .ok (.aload 4, 2) := by decide +kernel
theorem dL_simulate_2 : decode cL_simulate 2 = .ok (.iconst 0, 1) := by decide +kernel
theorem dL_simulate_3 : decode cL_simulate 3 = .ok (.aload_n 0, 1) := by decide +kernel
theorem dL_simulate_4 : decode cL_simulate 4 = .ok (.lload_n 1, 1) := by decide +kernel
theorem dL_simulate_5 : decode cL_simulate 5 = .ok (.iload_n 3, 1) := by decide +kernel
theorem dL_simulate_6 : decode cL_simulate 6 = .ok (.invokevirtual 94, 3) := by decide +kernel
theorem dL_simulate_9 : decode cL_simulate 9 = .ok (.i2l, 1) := by decide +kernel
theorem dL_simulate_10 : decode cL_simulate 10 = .ok (.lastore, 1) := by decide +kernel
theorem dL_simulate_11 : decode cL_simulate 11 = .ok (.goto 7, 3) := by decide +kernel
theorem dL_simulate_14 : decode cL_simulate 14 = .ok (.astore 5, 2) := by decide +kernel
theorem dL_simulate_16 : decode cL_simulate 16 = .ok (.iconst 1, 1) := by decide +kernel
theorem dL_simulate_17 : decode cL_simulate 17 = .ok (.ireturn, 1) := by decide +kernel
theorem dL_simulate_18 : decode cL_simulate 18 = .ok (.iconst 0, 1) := by decide +kernel
theorem dL_simulate_19 : decode cL_simulate 19 = .ok (.ireturn, 1) := by decide +kernel
set_option maxRecDepth 20000 in
theorem ggL_save_X9_save : GoodIn wsL_save wsX9_save := goodIn_ca (goodIn_r _ [6, 7, 8, 9, 10, 11, 12, 13, 5, 14, 15, 16, 17, 18, 19, 20, 21, 22, 23, 24, 25, 26, 27, 28, 29, 30, 31, 32, 33, 34, 35, 36, 37, 38, 39, 40, 41, 42, 43, 44, 45, 46, 47, 48, 49, 50, 51, 52, 53, 54, 55, 56, 57, 58, 59, 60, 61, 62, 63, 64, 65, 66, 67, 68, 69, 70, 71, 72, 73, 74, 75, 76, 77, 78, 79, 80, 81, 82, 83, 84, 85, 86, 87, 88, 89, 90, 91, 92, 93, 94, 95, 96, 97, 98, 99, 100, 101, 102, 103, 104, 105, 106] (by decide +kernel) (by decide +kernel)) (goodIn_sub (fun _ h => List.mem_cons_of_mem _ (List.mem_append_right _ h)) (by decide +kernel))
set_option maxRecDepth 20000 in
theorem gL_save_X9_save : GoodIn wsL_save (wsV RL 98 RX9 yX9_save wsX9_save) := goodIn_app (goodIn_of _ (by decide +kernel)) ggL_save_X9_save
theorem dL_save_0 : decode cL_save 0 = .ok (.aload_n 2, 1) := by decide +kernel
theorem dL_save_1 : decode cL_save 1 = .ok (.iconst 0, 1) := by decide +kernel
theorem dL_save_2 : decode cL_save 2 = .ok (.aload_n 0, 1) := by decide +kernel
theorem dL_save_3 : decode cL_save 3 = .ok (.iload_n 1, 1) := by decide +kernel
theorem dL_save_4 : decode cL_save 4 = .ok (.invokevirtual 98, 3) := by decide +kernel
theorem dL_save_7 : decode cL_save 7 = .ok (.i2l, 1) := by decide +kernel
theorem dL_save_8 : decode cL_save 8 = .ok (.lastore, 1) := by decide +kernel
theorem dL_save_9 : decode cL_save 9 = .ok (.goto 6, 3) := by decide +kernel
theorem dL_save_12 : decode cL_save 12 = .ok (.astore_n 3, 1) := by decide +kernel
theorem dL_save_13 : decode cL_save 13 = .ok (.iconst 1, 1) := by decide +kernel
theorem dL_save_14 : decode cL_save 14 = .ok (.ireturn, 1) := by decide +kernel
theorem dL_save_15 : decode cL_save 15 = .ok (.iconst 0, 1) := by decide +kernel
theorem dL_save_16 : decode cL_save 16 = .ok (.ireturn, 1) := by decide +kernel
set_option maxRecDepth 20000 in
theorem ggL_restore_X9_restore : GoodIn wsL_restore wsX9_restore := goodIn_ca (goodIn_ca (goodIn_r _ [7, 8, 9, 10, 11, 12, 13, 14, 15, 16, 17, 6, 18, 19, 20, 21, 22, 23, 24, 25, 26, 27, 28, 29, 30, 31, 32, 33, 34, 35, 36, 37, 38, 39, 40, 41, 42, 43, 44, 45, 46, 47, 48, 49, 50, 51, 52, 53, 54, 55, 56, 57, 58, 59, 60, 61, 62, 63, 64, 65, 66, 67, 68, 69, 70, 71, 72, 73, 74, 75, 76, 77, 78, 79, 80, 81, 82, 83, 84, 85, 86, 87, 88, 89, 90, 91, 92, 93, 94, 95, 96, 97, 98, 99, 100, 101, 102, 103, 104, 105, 106, 107, 108, 109, 110, 111, 112, 113, 114, 115, 116, 117, 118] (by decide +kernel) (by decide +kernel)) (goodIn_sub (fun _ h => List.mem_cons_of_mem _ (List.mem_append_left _ (List.mem_append_right _ h))) (by decide +kernel))) (goodIn_sub (fun _ h => List.mem_cons_of_mem _ (List.mem_append_right _ h)) (by decide +kernel))
set_option maxRecDepth 20000 in
theorem gL_restore_X9_restore : GoodIn wsL_restore (wsV RL 101 RX9 yX9_restore wsX9_restore) := goodIn_app (goodIn_of _ (by decide +kernel)) ggL_restore_X9_restore
theorem dL_restore_0 : decode cL_restore 0 = .ok (.aload_n 2, 1) := by decide +kernel
theorem dL_restore_1 : decode cL_restore 1 = .ok (.iconst 0, 1) := by decide +kernel
theorem dL_restore_2 : decode cL_restore 2 = .ok (.aload_n 0, 1) := by decide +kernel
theorem dL_restore_3 : decode cL_restore 3 = .ok (.iload_n 1, 1) := by decide +kernel
theorem dL_restore_4 : decode cL_restore 4 = .ok (.invokevirtual 101, 3) := by decide +kernel
theorem dL_restore_7 : decode cL_restore 7 = .ok (.i2l, 1) := by decide +kernel
theorem dL_restore_8 : decode cL_restore 8 = .ok (.lastore, 1) := by decide +kernel
theorem dL_restore_9 : decode cL_restore 9 = .ok (.goto 9, 3) := by decide +kernel
theorem dL_restore_12 : decode cL_restore 12 = .ok (.astore_n 3, 1) := by decide +kernel
theorem dL_restore_13 : decode cL_restore 13 = .ok (.iconst 1, 1) := by decide +kernel
theorem dL_restore_14 : decode cL_restore 14 = .ok (.ireturn, 1) := by decide +kernel
theorem dL_restore_15 : decode cL_restore 15 = .ok (.astore_n 3, 1) := by decide +kernel
theorem dL_restore_16 : decode cL_restore 16 = .ok (.iconst 2, 1) := by decide +kernel
theorem dL_restore_17 : decode cL_restore 17 = .ok (.ireturn, 1) := by decide +kernel
theorem dL_restore_18 : decode cL_restore 18 = .ok (.iconst 0, 1) := by decide +kernel
theorem dL_restore_19 : decode cL_restore 19 = .ok (.ireturn, 1) := by decide +kernel
