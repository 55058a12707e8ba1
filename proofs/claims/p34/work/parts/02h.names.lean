set_option maxRecDepth 20000 in
theorem gX9_correct_X9_needRange : GoodIn wsX9_correct (va_wsS RX9 40 yX9_needRange wsX9_needRange) := goodIn_app (goodIn_of _ (by decide +kernel)) ggX9_correct_X9_needRange
set_option maxRecDepth 20000 in
theorem ggX9_correct_X9_needMain : GoodIn wsX9_correct wsX9_needMain := goodIn_ca (goodIn_r _ [14, 15, 16, 2, 17, 18, 19, 20, 21, 22, 23, 24, 25, 26, 27, 28, 29, 93, 94, 95, 96, 97, 98, 99, 100, 101, 102, 103, 111, 112, 113, 114] (by decide +kernel) (by decide +kernel)) (goodIn_sub (fun _ h => List.mem_cons_of_mem _ (List.mem_append_right _ h)) (by decide +kernel))
set_option maxRecDepth 20000 in
theorem gX9_correct_X9_needMain : GoodIn wsX9_correct (wsV RX9 154 RX9 yX9_needMain wsX9_needMain) := goodIn_app (goodIn_of _ (by decide +kernel)) ggX9_correct_X9_needMain
set_option maxRecDepth 20000 in
theorem ggX9_correct_X2_remember : GoodIn wsX9_correct wsX2_remember := goodIn_r _ [34, 35, 36, 37, 38, 39, 33, 40, 41, 42, 43, 20, 44, 45, 46, 22, 47, 48, 49, 50, 51, 52, 53, 54, 55, 56, 57, 58, 59, 60, 61, 62, 63, 64, 65, 66, 67, 68, 26, 69, 70, 71, 28, 29, 72, 73, 74, 75, 76, 77, 78, 79, 80, 81, 82, 83, 84, 85, 86, 87, 88, 89, 90, 91, 92, 115, 116, 98, 99, 100, 101, 102, 103, 104, 105, 106, 107, 108, 109, 110, 111, 112, 113, 114, 117, 118, 119, 120, 121, 122, 123, 124, 125] (by decide +kernel) (by decide +kernel)
set_option maxRecDepth 20000 in
theorem gX9_correct_X2_remember : GoodIn wsX9_correct (wsV RX9 138 RX2 yX2_remember wsX2_remember) := goodIn_app (goodIn_of _ (by decide +kernel)) ggX9_correct_X2_remember
theorem dX9_correct_0 : decode cX9_correct 0 = .ok (.iload_n 1, 1) := by decide +kernel
theorem dX9_correct_1 : decode cX9_correct 1 = .ok (.sipush (-500), 3) := by decide +kernel
theorem dX9_correct_4 : decode cX9_correct 4 = .ok (.sipush 500, 3) := by decide +kernel
theorem dX9_correct_7 : decode cX9_correct 7 = .ok (.invokestatic 40, 3) := by decide +kernel
theorem dX9_correct_10 : decode cX9_correct 10 = .ok (.aload_n 0, 1) := by decide +kernel
theorem dX9_correct_11 : decode cX9_correct 11 = .ok (.invokevirtual 154, 3) := by decide +kernel
theorem dX9_correct_14 : decode cX9_correct 14 = .ok (.aload_n 0, 1) := by decide +kernel
theorem dX9_correct_15 : decode cX9_correct 15 = .ok (.getfield 29, 3) := by decide +kernel
theorem dX9_correct_18 : decode cX9_correct 18 = .ok (.aload_n 0, 1) := by decide +kernel
theorem dX9_correct_19 : decode cX9_correct 19 = .ok (.getfield 19, 3) := by decide +kernel
theorem dX9_correct_22 : decode cX9_correct 22 = .ok (.invokevirtual 138, 3) := by decide +kernel
theorem dX9_correct_25 : decode cX9_correct 25 = .ok (.aload_n 0, 1) := by decide +kernel
theorem dX9_correct_26 : decode cX9_correct 26 = .ok (.getfield 19, 3) := by decide +kernel
theorem dX9_correct_29 : decode cX9_correct 29 = .ok (.getfield 94, 3) := by decide +kernel
theorem dX9_correct_32 : decode cX9_correct 32 = .ok (.getfield 160, 3) := by decide +kernel
theorem dX9_correct_35 : decode cX9_correct 35 = .ok (.istore_n 2, 1) := by decide +kernel
theorem dX9_correct_36 : decode cX9_correct 36 = .ok (.aload_n 0, 1) := by decide +kernel
theorem dX9_correct_37 : decode cX9_correct 37 = .ok (.getfield 19, 3) := by decide +kernel
theorem dX9_correct_40 : decode cX9_correct 40 = .ok (.getfield 94, 3) := by decide +kernel
theorem dX9_correct_43 : decode cX9_correct 43 = .ok (.iload_n 1, 1) := by decide +kernel
theorem dX9_correct_44 : decode cX9_correct 44 = .ok (.putfield 160, 3) := by decide +kernel
theorem dX9_correct_47 : decode cX9_correct 47 = .ok (.iload_n 2, 1) := by decide +kernel
theorem dX9_correct_48 : decode cX9_correct 48 = .ok (.ireturn, 1) := by decide +kernel
set_option maxRecDepth 20000 in
theorem ggX9_age_X9_needRange : GoodIn wsX9_age wsX9_needRange := goodIn_ca (goodIn_r _ [8, 9, 10] (by decide +kernel) (by decide +kernel)) (goodIn_sub (fun _ h => List.mem_cons_of_mem _ (List.mem_append_right _ h)) (by decide +kernel))
set_option maxRecDepth 20000 in
theorem gX9_age_X9_needRange : GoodIn wsX9_age (va_wsS RX9 40 yX9_needRange wsX9_needRange) := goodIn_app (goodIn_of _ (by decide +kernel)) ggX9_age_X9_needRange
set_option maxRecDepth 20000 in
theorem ggX9_age_X2_remember : GoodIn wsX9_age wsX2_remember := goodIn_r _ [15, 16, 17, 18, 19, 20, 14, 21, 22, 23, 24, 25, 26, 27, 28, 29, 30, 31, 32, 33, 34, 35, 36, 37, 38, 39, 40, 41, 42, 43, 44, 45, 46, 47, 48, 49, 50, 51, 52, 53, 54, 55, 56, 57, 58, 59, 60, 61, 62, 63, 64, 65, 66, 67, 68, 69, 70, 71, 72, 73, 74, 75, 76, 77, 78, 97, 98, 84, 85, 86, 87, 88, 89, 90, 91, 92, 93, 94, 95, 96, 99, 100, 101, 102, 103, 104, 105, 106, 107, 108, 109, 110, 111] (by decide +kernel) (by decide +kernel)
set_option maxRecDepth 20000 in
theorem gX9_age_X2_remember : GoodIn wsX9_age (wsV RX9 138 RX2 yX2_remember wsX2_remember) := goodIn_app (goodIn_of _ (by decide +kernel)) ggX9_age_X2_remember
theorem dX9_age_0 : decode cX9_age 0 = .ok (.iload_n 1, 1) := by decide +kernel
theorem dX9_age_1 : decode cX9_age 1 = .ok (.sipush (-500), 3) := by decide +kernel
theorem dX9_age_4 : decode cX9_age 4 = .ok (.sipush 500, 3) := by decide +kernel
theorem dX9_age_7 : decode cX9_age 7 = .ok (.invokestatic 40, 3) := by decide +kernel
theorem dX9_age_10 : decode cX9_age 10 = .ok (.aload_n 0, 1) := by decide +kernel
theorem dX9_age_11 : decode cX9_age 11 = .ok (.getfield 29, 3) := by decide +kernel
theorem dX9_age_14 : decode cX9_age 14 = .ok (.aload_n 0, 1) := by decide +kernel
theorem dX9_age_15 : decode cX9_age 15 = .ok (.getfield 19, 3) := by decide +kernel
theorem dX9_age_18 : decode cX9_age 18 = .ok (.invokevirtual 138, 3) := by decide +kernel
theorem dX9_age_21 : decode cX9_age 21 = .ok (.aload_n 0, 1) := by decide +kernel
theorem dX9_age_22 : decode cX9_age 22 = .ok (.getfield 19, 3) := by decide +kernel
theorem dX9_age_25 : decode cX9_age 25 = .ok (.getfield 94, 3) := by decide +kernel
theorem dX9_age_28 : decode cX9_age 28 = .ok (.getfield 163, 3) := by decide +kernel
theorem dX9_age_31 : decode cX9_age 31 = .ok (.istore_n 2, 1) := by decide +kernel
theorem dX9_age_32 : decode cX9_age 32 = .ok (.aload_n 0, 1) := by decide +kernel
theorem dX9_age_33 : decode cX9_age 33 = .ok (.getfield 19, 3) := by decide +kernel
theorem dX9_age_36 : decode cX9_age 36 = .ok (.getfield 94, 3) := by decide +kernel
theorem dX9_age_39 : decode cX9_age 39 = .ok (.iload_n 1, 1) := by decide +kernel
theorem dX9_age_40 : decode cX9_age 40 = .ok (.putfield 163, 3) := by decide +kernel
theorem dX9_age_43 : decode cX9_age 43 = .ok (.iload_n 2, 1) := by decide +kernel
theorem dX9_age_44 : decode cX9_age 44 = .ok (.ireturn, 1) := by decide +kernel
set_option maxRecDepth 20000 in
theorem ggX9_write_X9_needIndex : GoodIn wsX9_write wsX9_needIndex := goodIn_ca (goodIn_r _ [7, 8, 9] (by decide +kernel) (by decide +kernel)) (goodIn_sub (fun _ h => List.mem_cons_of_mem _ (List.mem_append_left _ (List.mem_append_left _ (List.mem_append_right _ h)))) (by decide +kernel))
set_option maxRecDepth 20000 in
theorem gX9_write_X9_needIndex : GoodIn wsX9_write (va_wsS RX9 107 yX9_needIndex wsX9_needIndex) := goodIn_app (goodIn_of _ (by decide +kernel)) ggX9_write_X9_needIndex
set_option maxRecDepth 20000 in
theorem ggX9_write_X9_needRange : GoodIn wsX9_write wsX9_needRange := goodIn_ca (goodIn_r _ [12, 13, 14] (by decide +kernel) (by decide +kernel)) (goodIn_sub (fun _ h => List.mem_cons_of_mem _ (List.mem_append_left _ (List.mem_append_right _ h))) (by decide +kernel))
set_option maxRecDepth 20000 in
theorem gX9_write_X9_needRange : GoodIn wsX9_write (va_wsS RX9 40 yX9_needRange wsX9_needRange) := goodIn_app (goodIn_of _ (by decide +kernel)) ggX9_write_X9_needRange
set_option maxRecDepth 20000 in
theorem ggX9_write_X9_needMain : GoodIn wsX9_write wsX9_needMain := goodIn_ca (goodIn_r _ [18, 19, 20, 2, 21, 22, 23, 24, 25, 26, 27, 28, 29, 30, 31, 32, 33, 97, 98, 99, 100, 101, 102, 103, 104, 105, 106, 107, 108, 109, 110, 111] (by decide +kernel) (by decide +kernel)) (goodIn_sub (fun _ h => List.mem_cons_of_mem _ (List.mem_append_right _ h)) (by decide +kernel))
set_option maxRecDepth 20000 in
theorem gX9_write_X9_needMain : GoodIn wsX9_write (wsV RX9 154 RX9 yX9_needMain wsX9_needMain) := goodIn_app (goodIn_of _ (by decide +kernel)) ggX9_write_X9_needMain
set_option maxRecDepth 20000 in
theorem ggX9_write_X2_remember : GoodIn wsX9_write wsX2_remember := goodIn_r _ [38, 39, 40, 41, 42, 43, 37, 44, 45, 46, 47, 24, 48, 49, 50, 26, 51, 52, 53, 54, 55, 56, 57, 58, 59, 60, 61, 62, 63, 64, 65, 66, 67, 68, 69, 70, 71, 72, 30, 73, 74, 75, 32, 33, 76, 77, 78, 79, 80, 81, 82, 83, 84, 85, 86, 87, 88, 89, 90, 91, 92, 93, 94, 95, 96, 112, 113, 102, 103, 104, 105, 106, 107, 114, 115, 116, 117, 118, 119, 120, 108, 109, 110, 111, 121, 122, 123, 124, 125, 126, 127, 128, 129] (by decide +kernel) (by decide +kernel)
set_option maxRecDepth 20000 in
theorem gX9_write_X2_remember : GoodIn wsX9_write (wsV RX9 138 RX2 yX2_remember wsX2_remember) := goodIn_app (goodIn_of _ (by decide +kernel)) ggX9_write_X2_remember
theorem dX9_write_0 : decode cX9_write 0 = .ok (.iload_n 1, 1) := by decide +kernel
theorem dX9_write_1 : decode cX9_write 1 = .ok (.bipush 8, 2) := by decide +kernel
theorem dX9_write_3 : decode cX9_write 3 = .ok (.invokestatic 107, 3) := by decide +kernel
theorem dX9_write_6 : decode cX9_write 6 = .ok (.iload_n 2, 1) := by decide +kernel
theorem dX9_write_7 : decode cX9_write 7 = .ok (.iconst 0, 1) := by decide +kernel
theorem dX9_write_8 : decode cX9_write 8 = .ok (.sipush 255, 3) := by decide +kernel
theorem dX9_write_11 : decode cX9_write 11 = .ok (.invokestatic 40, 3) := by decide +kernel
theorem dX9_write_14 : decode cX9_write 14 = .ok (.aload_n 0, 1) := by decide +kernel
theorem dX9_write_15 : decode cX9_write 15 = .ok (.invokevirtual 154, 3) := by decide +kernel
theorem dX9_write_18 : decode cX9_write 18 = .ok (.aload_n 0, 1) := by decide +kernel
theorem dX9_write_19 : decode cX9_write 19 = .ok (.getfield 29, 3) := by decide +kernel
theorem dX9_write_22 : decode cX9_write 22 = .ok (.aload_n 0, 1) := by decide +kernel
theorem dX9_write_23 : decode cX9_write 23 = .ok (.getfield 19, 3) := by decide +kernel
theorem dX9_write_26 : decode cX9_write 26 = .ok (.invokevirtual 138, 3) := by decide +kernel
theorem dX9_write_29 : decode cX9_write 29 = .ok (.aload_n 0, 1) := by decide +kernel
theorem dX9_write_30 : decode cX9_write 30 = .ok (.getfield 19, 3) := by decide +kernel
theorem dX9_write_33 : decode cX9_write 33 = .ok (.getfield 111, 3) := by decide +kernel
theorem dX9_write_36 : decode cX9_write 36 = .ok (.iload_n 1, 1) := by decide +kernel
theorem dX9_write_37 : decode cX9_write 37 = .ok (.iaload, 1) := by decide +kernel
theorem dX9_write_38 : decode cX9_write 38 = .ok (.istore_n 3, 1) := by decide +kernel
theorem dX9_write_39 : decode cX9_write 39 = .ok (.aload_n 0, 1) := by decide +kernel
theorem dX9_write_40 : decode cX9_write 40 = .ok (.getfield 19, 3) := by decide +kernel
theorem dX9_write_43 : decode cX9_write 43 = .ok (.getfield 111, 3) := by decide +kernel
theorem dX9_write_46 : decode cX9_write 46 = .ok (.iload_n 1, 1) := by decide +kernel
theorem dX9_write_47 : decode cX9_write 47 = .ok (.iload_n 2, 1) := by decide +kernel
theorem dX9_write_48 : decode cX9_write 48 = .ok (.iastore, 1) := by decide +kernel
theorem dX9_write_49 : decode cX9_write 49 = .ok (.iload_n 3, 1) := by decide +kernel
theorem dX9_write_50 : decode cX9_write 50 = .ok (.ireturn, 1) := by decide +kernel
set_option maxRecDepth 20000 in
theorem ggX9_guard_X9_needIndex : GoodIn wsX9_guard wsX9_needIndex := goodIn_ca (goodIn_r _ [8, 9, 10] (by decide +kernel) (by decide +kernel)) (goodIn_sub (fun _ h => List.mem_cons_of_mem _ (List.mem_append_left _ (List.mem_append_right _ h))) (by decide +kernel))
set_option maxRecDepth 20000 in
theorem gX9_guard_X9_needIndex : GoodIn wsX9_guard (va_wsS RX9 107 yX9_needIndex wsX9_needIndex) := goodIn_app (goodIn_of _ (by decide +kernel)) ggX9_guard_X9_needIndex
set_option maxRecDepth 20000 in
theorem ggX9_guard_X9_needMain : GoodIn wsX9_guard wsX9_needMain := goodIn_ca (goodIn_r _ [14, 15, 16, 2, 17, 18, 19, 20, 21, 22, 23, 24, 25, 26, 27, 28, 29, 97, 98, 99, 100, 101, 102, 103, 104, 105, 106, 107, 114, 115, 116, 117] (by decide +kernel) (by decide +kernel)) (goodIn_sub (fun _ h => List.mem_cons_of_mem _ (List.mem_append_right _ h)) (by decide +kernel))
set_option maxRecDepth 20000 in
theorem gX9_guard_X9_needMain : GoodIn wsX9_guard (wsV RX9 154 RX9 yX9_needMain wsX9_needMain) := goodIn_app (goodIn_of _ (by decide +kernel)) ggX9_guard_X9_needMain
set_option maxRecDepth 20000 in
theorem ggX9_guard_X2_remember : GoodIn wsX9_guard wsX2_remember := goodIn_r _ [34, 35, 36, 37, 38, 39, 33, 40, 41, 42, 43, 20, 44, 45, 46, 22, 47, 48, 49, 50, 51, 52, 53, 54, 55, 56, 57, 58, 59, 60, 61, 62, 63, 64, 65, 66, 67, 68, 26, 69, 70, 71, 28, 29, 72, 73, 74, 75, 76, 77, 78, 79, 80, 81, 82, 83, 84, 85, 86, 87, 88, 89, 90, 91, 92, 118, 119, 102, 103, 104, 105, 106, 107, 120, 121, 122, 123, 124, 125, 126, 114, 115, 116, 117, 108, 109, 110, 111, 112, 113, 127, 128, 129] (by decide +kernel) (by decide +kernel)
set_option maxRecDepth 20000 in
theorem gX9_guard_X2_remember : GoodIn wsX9_guard (wsV RX9 138 RX2 yX2_remember wsX2_remember) := goodIn_app (goodIn_of _ (by decide +kernel)) ggX9_guard_X2_remember
set_option maxRecDepth 20000 in
theorem ggX9_guard_X7_guardedPins : GoodIn wsX9_guard wsX7_guardedPins := goodIn_r _ [96, 78, 108, 109, 110, 111, 112, 113] (by decide +kernel) (by decide +kernel)
set_option maxRecDepth 20000 in
theorem gX9_guard_X7_guardedPins : GoodIn wsX9_guard (wsV RX9 166 RX7 yX7_guardedPins wsX7_guardedPins) := goodIn_app (goodIn_of _ (by decide +kernel)) ggX9_guard_X7_guardedPins
theorem dX9_guard_0 : decode cX9_guard 0 = .ok (.iload_n 1, 1) := by decide +kernel
theorem dX9_guard_1 : decode cX9_guard 1 = .ok (.iconst 3, 1) := by decide +kernel
theorem dX9_guard_2 : decode cX9_guard 2 = .ok (.invokestatic 107, 3) := by decide +kernel
theorem dX9_guard_5 : decode cX9_guard 5 = .ok (.aload_n 0, 1) := by decide +kernel
theorem dX9_guard_6 : decode cX9_guard 6 = .ok (.invokevirtual 154, 3) := by decide +kernel
theorem dX9_guard_9 : decode cX9_guard 9 = .ok (.aload_n 0, 1) := by decide +kernel
theorem dX9_guard_10 : decode cX9_guard 10 = .ok (.getfield 29, 3) := by decide +kernel
theorem dX9_guard_13 : decode cX9_guard 13 = .ok (.aload_n 0, 1) := by decide +kernel
theorem dX9_guard_14 : decode cX9_guard 14 = .ok (.getfield 19, 3) := by decide +kernel
theorem dX9_guard_17 : decode cX9_guard 17 = .ok (.invokevirtual 138, 3) := by decide +kernel
theorem dX9_guard_20 : decode cX9_guard 20 = .ok (.aload_n 0, 1) := by decide +kernel
theorem dX9_guard_21 : decode cX9_guard 21 = .ok (.getfield 19, 3) := by decide +kernel
theorem dX9_guard_24 : decode cX9_guard 24 = .ok (.getfield 114, 3) := by decide +kernel
theorem dX9_guard_27 : decode cX9_guard 27 = .ok (.getfield 118, 3) := by decide +kernel
theorem dX9_guard_30 : decode cX9_guard 30 = .ok (.iload_n 1, 1) := by decide +kernel
theorem dX9_guard_31 : decode cX9_guard 31 = .ok (.iload_n 2, 1) := by decide +kernel
theorem dX9_guard_32 : decode cX9_guard 32 = .ok (.bastore, 1) := by decide +kernel
theorem dX9_guard_33 : decode cX9_guard 33 = .ok (.aload_n 0, 1) := by decide +kernel
theorem dX9_guard_34 : decode cX9_guard 34 = .ok (.getfield 19, 3) := by decide +kernel
theorem dX9_guard_37 : decode cX9_guard 37 = .ok (.getfield 114, 3) := by decide +kernel
theorem dX9_guard_40 : decode cX9_guard 40 = .ok (.invokevirtual 166, 3) := by decide +kernel
theorem dX9_guard_43 : decode cX9_guard 43 = .ok (.ireturn, 1) := by decide +kernel
set_option maxRecDepth 20000 in
theorem ggX9_tamper_X9_needIndex : GoodIn wsX9_tamper wsX9_needIndex := goodIn_ca (goodIn_r _ [8, 9, 10] (by decide +kernel) (by decide +kernel)) (goodIn_sub (fun _ h => List.mem_cons_of_mem _ (List.mem_append_right _ h)) (by decide +kernel))
set_option maxRecDepth 20000 in
theorem gX9_tamper_X9_needIndex : GoodIn wsX9_tamper (va_wsS RX9 107 yX9_needIndex wsX9_needIndex) := goodIn_app (goodIn_of _ (by decide +kernel)) ggX9_tamper_X9_needIndex
set_option maxRecDepth 20000 in
theorem ggX9_tamper_X2_remember : GoodIn wsX9_tamper wsX2_remember := goodIn_r _ [15, 16, 17, 18, 19, 20, 14, 21, 22, 23, 24, 25, 26, 27, 28, 29, 30, 31, 32, 33, 34, 35, 36, 37, 38, 39, 40, 41, 42, 43, 44, 45, 46, 47, 48, 49, 50, 51, 52, 53, 54, 55, 56, 57, 58, 59, 60, 61, 62, 63, 64, 65, 66, 67, 68, 69, 70, 71, 72, 73, 74, 75, 76, 77, 78, 114, 115, 102, 103, 104, 105, 106, 107, 116, 117, 118, 119, 120, 121, 122, 123, 124, 125, 126, 108, 109, 110, 111, 112, 113, 127, 128, 129] (by decide +kernel) (by decide +kernel)
set_option maxRecDepth 20000 in
theorem gX9_tamper_X2_remember : GoodIn wsX9_tamper (wsV RX9 138 RX2 yX2_remember wsX2_remember) := goodIn_app (goodIn_of _ (by decide +kernel)) ggX9_tamper_X2_remember
set_option maxRecDepth 20000 in
theorem ggX9_tamper_X5_tamperAt : GoodIn wsX9_tamper wsX5_tamperAt := goodIn_r _ [82, 30, 83, 29, 28, 84, 85, 86, 87, 52, 88, 56, 57, 89, 90, 91, 25, 92, 31, 93, 94, 95, 62, 96, 70, 69, 66, 67, 68, 102, 103, 104, 105, 106, 107, 108, 109, 110, 111, 112, 113, 116, 117, 118, 119, 120, 121, 122, 123, 124, 125, 126] (by decide +kernel) (by decide +kernel)
set_option maxRecDepth 20000 in
theorem gX9_tamper_X5_tamperAt : GoodIn wsX9_tamper (wsV RX9 169 RX5 yX5_tamperAt wsX5_tamperAt) := goodIn_app (goodIn_of _ (by decide +kernel)) ggX9_tamper_X5_tamperAt
theorem dX9_tamper_0 : decode cX9_tamper 0 = .ok (.iload_n 1, 1) := by decide +kernel
theorem dX9_tamper_1 : decode cX9_tamper 1 = .ok (.iconst 3, 1) := by decide +kernel
theorem dX9_tamper_2 : decode cX9_tamper 2 = .ok (.invokestatic 107, 3) := by decide +kernel
theorem dX9_tamper_5 : decode cX9_tamper 5 = .ok (.aload_n 0, 1) := by decide +kernel
theorem dX9_tamper_6 : decode cX9_tamper 6 = .ok (.getfield 29, 3) := by decide +kernel
theorem dX9_tamper_9 : decode cX9_tamper 9 = .ok (.aload_n 0, 1) := by decide +kernel
theorem dX9_tamper_10 : decode cX9_tamper 10 = .ok (.getfield 19, 3) := by decide +kernel
theorem dX9_tamper_13 : decode cX9_tamper 13 = .ok (.invokevirtual 138, 3) := by decide +kernel
theorem dX9_tamper_16 : decode cX9_tamper 16 = .ok (.aload_n 0, 1) := by decide +kernel
theorem dX9_tamper_17 : decode cX9_tamper 17 = .ok (.getfield 19, 3) := by decide +kernel
theorem dX9_tamper_20 : decode cX9_tamper 20 = .ok (.iload_n 1, 1) := by decide +kernel
theorem dX9_tamper_21 : decode cX9_tamper 21 = .ok (.invokevirtual 169, 3) := by decide +kernel
theorem dX9_tamper_24 : decode cX9_tamper 24 = .ok (.aload_n 0, 1) := by decide +kernel
theorem dX9_tamper_25 : decode cX9_tamper 25 = .ok (.getfield 19, 3) := by decide +kernel
theorem dX9_tamper_28 : decode cX9_tamper 28 = .ok (.getfield 114, 3) := by decide +kernel
theorem dX9_tamper_31 : decode cX9_tamper 31 = .ok (.getfield 124, 3) := by decide +kernel
theorem dX9_tamper_34 : decode cX9_tamper 34 = .ok (.ireturn, 1) := by decide +kernel
set_option maxRecDepth 20000 in
theorem ggX9_clearRows_X9_needMain : GoodIn wsX9_clearRows wsX9_needMain := goodIn_ca (goodIn_r _ [9, 10, 11, 2, 12, 13, 14, 15, 16, 17, 18, 19, 20, 21, 22, 23, 24, 88, 89, 90, 91, 92, 93, 94, 95, 96, 97, 98, 105, 106, 107, 108] (by decide +kernel) (by decide +kernel)) (goodIn_sub (fun _ h => List.mem_cons_of_mem _ (List.mem_append_right _ h)) (by decide +kernel))
set_option maxRecDepth 20000 in
theorem gX9_clearRows_X9_needMain : GoodIn wsX9_clearRows (wsV RX9 154 RX9 yX9_needMain wsX9_needMain) := goodIn_app (goodIn_of _ (by decide +kernel)) ggX9_clearRows_X9_needMain
set_option maxRecDepth 20000 in
theorem ggX9_clearRows_X2_remember : GoodIn wsX9_clearRows wsX2_remember := goodIn_r _ [29, 30, 31, 32, 33, 34, 28, 35, 36, 37, 38, 15, 39, 40, 41, 17, 42, 43, 44, 45, 46, 47, 48, 49, 50, 51, 52, 53, 54, 55, 56, 57, 58, 59, 60, 61, 62, 63, 21, 64, 65, 66, 23, 24, 67, 68, 69, 70, 71, 72, 73, 74, 75, 76, 77, 78, 79, 80, 81, 82, 83, 84, 85, 86, 87, 109, 110, 93, 94, 95, 96, 97, 98, 111, 112, 113, 114, 115, 116, 117, 105, 106, 107, 108, 99, 100, 101, 102, 103, 104, 118, 119, 120] (by decide +kernel) (by decide +kernel)
set_option maxRecDepth 20000 in
theorem gX9_clearRows_X2_remember : GoodIn wsX9_clearRows (wsV RX9 138 RX2 yX2_remember wsX2_remember) := goodIn_app (goodIn_of _ (by decide +kernel)) ggX9_clearRows_X2_remember
theorem dX9_clearRows_0 : decode cX9_clearRows 0 = .ok (.aload_n 0, 1) := by decide +kernel
theorem dX9_clearRows_1 : decode cX9_clearRows 1 = .ok (.invokevirtual 154, 3) := by decide +kernel
theorem dX9_clearRows_4 : decode cX9_clearRows 4 = .ok (.aload_n 0, 1) := by decide +kernel
theorem dX9_clearRows_5 : decode cX9_clearRows 5 = .ok (.getfield 29, 3) := by decide +kernel
theorem dX9_clearRows_8 : decode cX9_clearRows 8 = .ok (.aload_n 0, 1) := by decide +kernel
theorem dX9_clearRows_9 : decode cX9_clearRows 9 = .ok (.getfield 19, 3) := by decide +kernel
theorem dX9_clearRows_12 : decode cX9_clearRows 12 = .ok (.invokevirtual 138, 3) := by decide +kernel
theorem dX9_clearRows_15 : decode cX9_clearRows 15 = .ok (.aload_n 0, 1) := by decide +kernel
theorem dX9_clearRows_16 : decode cX9_clearRows 16 = .ok (.getfield 19, 3) := by decide +kernel
theorem dX9_clearRows_19 : decode cX9_clearRows 19 = .ok (.getfield 114, 3) := by decide +kernel
theorem dX9_clearRows_22 : decode cX9_clearRows 22 = .ok (.getfield 124, 3) := by decide +kernel
theorem dX9_clearRows_25 : decode cX9_clearRows 25 = .ok (.istore_n 1, 1) := by decide +kernel
theorem dX9_clearRows_26 : decode cX9_clearRows 26 = .ok (.aload_n 0, 1) := by decide +kernel
theorem dX9_clearRows_27 : decode cX9_clearRows 27 = .ok (.getfield 19, 3) := by decide +kernel
theorem dX9_clearRows_30 : decode cX9_clearRows 30 = .ok (.getfield 114, 3) := by decide +kernel
theorem dX9_clearRows_33 : decode cX9_clearRows 33 = .ok (.iconst 0, 1) := by decide +kernel
theorem dX9_clearRows_34 : decode cX9_clearRows 34 = .ok (.putfield 124, 3) := by decide +kernel
theorem dX9_clearRows_37 : decode cX9_clearRows 37 = .ok (.iload_n 1, 1) := by decide +kernel
theorem dX9_clearRows_38 : decode cX9_clearRows 38 = .ok (.ireturn, 1) := by decide +kernel
set_option maxRecDepth 20000 in
theorem ggX9_setAlarm_X9_needIndex : GoodIn wsX9_setAlarm wsX9_needIndex := goodIn_ca (goodIn_r _ [9, 10, 11] (by decide +kernel) (by decide +kernel)) (goodIn_sub (fun _ h => List.mem_cons_of_mem _ (List.mem_append_left _ (List.mem_append_right _ h))) (by decide +kernel))
set_option maxRecDepth 20000 in
theorem gX9_setAlarm_X9_needIndex : GoodIn wsX9_setAlarm (va_wsS RX9 107 yX9_needIndex wsX9_needIndex) := goodIn_app (goodIn_of _ (by decide +kernel)) ggX9_setAlarm_X9_needIndex
set_option maxRecDepth 20000 in
theorem ggX9_setAlarm_X9_needRange : GoodIn wsX9_setAlarm wsX9_needRange := goodIn_ca (goodIn_r _ [14, 15, 16] (by decide +kernel) (by decide +kernel)) (goodIn_sub (fun _ h => List.mem_cons_of_mem _ (List.mem_append_right _ h)) (by decide +kernel))
set_option maxRecDepth 20000 in
theorem gX9_setAlarm_X9_needRange : GoodIn wsX9_setAlarm (va_wsS RX9 40 yX9_needRange wsX9_needRange) := goodIn_app (goodIn_of _ (by decide +kernel)) ggX9_setAlarm_X9_needRange
set_option maxRecDepth 20000 in
theorem ggX9_setAlarm_X2_remember : GoodIn wsX9_setAlarm wsX2_remember := goodIn_r _ [21, 22, 23, 24, 25, 26, 20, 27, 28, 29, 30, 31, 32, 33, 34, 35, 36, 37, 38, 39, 40, 41, 42, 43, 44, 45, 46, 47, 48, 49, 50, 51, 52, 53, 54, 55, 56, 57, 58, 59, 60, 61, 62, 63, 64, 65, 66, 67, 68, 69, 70, 71, 72, 73, 74, 75, 76, 77, 78, 79, 80, 81, 82, 83, 84, 103, 104, 94, 95, 96, 97, 98, 99, 105, 106, 107, 108, 109, 110, 111, 112, 113, 114, 115, 116, 117, 118, 119, 120, 121, 100, 101, 102] (by decide +kernel) (by decide +kernel)
set_option maxRecDepth 20000 in
theorem gX9_setAlarm_X2_remember : GoodIn wsX9_setAlarm (wsV RX9 138 RX2 yX2_remember wsX2_remember) := goodIn_app (goodIn_of _ (by decide +kernel)) ggX9_setAlarm_X2_remember
set_option maxRecDepth 20000 in
theorem ggX9_setAlarm_X0_setTo : GoodIn wsX9_setAlarm wsX0_setTo := goodIn_r _ [88, 82, 83, 100, 101, 102] (by decide +kernel) (by decide +kernel)
set_option maxRecDepth 20000 in
theorem gX9_setAlarm_X0_setTo : GoodIn wsX9_setAlarm (wsV RX9 175 RX0 yX0_setTo wsX0_setTo) := goodIn_app (goodIn_of _ (by decide +kernel)) ggX9_setAlarm_X0_setTo
theorem dX9_setAlarm_0 : decode cX9_setAlarm 0 = .ok (.iload_n 1, 1) := by decide +kernel
theorem dX9_setAlarm_1 : decode cX9_setAlarm 1 = .ok (.iconst 4, 1) := by decide +kernel
theorem dX9_setAlarm_2 : decode cX9_setAlarm 2 = .ok (.invokestatic 107, 3) := by decide +kernel
theorem dX9_setAlarm_5 : decode cX9_setAlarm 5 = .ok (.iload_n 2, 1) := by decide +kernel
theorem dX9_setAlarm_6 : decode cX9_setAlarm 6 = .ok (.iconst 0, 1) := by decide +kernel
theorem dX9_setAlarm_7 : decode cX9_setAlarm 7 = .ok (.sipush 1440, 3) := by decide +kernel
theorem dX9_setAlarm_10 : decode cX9_setAlarm 10 = .ok (.invokestatic 40, 3) := by decide +kernel
theorem dX9_setAlarm_13 : decode cX9_setAlarm 13 = .ok (.aload_n 0, 1) := by decide +kernel
theorem dX9_setAlarm_14 : decode cX9_setAlarm 14 = .ok (.getfield 29, 3) := by decide +kernel
theorem dX9_setAlarm_17 : decode cX9_setAlarm 17 = .ok (.aload_n 0, 1) := by decide +kernel
theorem dX9_setAlarm_18 : decode cX9_setAlarm 18 = .ok (.getfield 19, 3) := by decide +kernel
theorem dX9_setAlarm_21 : decode cX9_setAlarm 21 = .ok (.invokevirtual 138, 3) := by decide +kernel
theorem dX9_setAlarm_24 : decode cX9_setAlarm 24 = .ok (.aload_n 0, 1) := by decide +kernel
theorem dX9_setAlarm_25 : decode cX9_setAlarm 25 = .ok (.getfield 19, 3) := by decide +kernel
theorem dX9_setAlarm_28 : decode cX9_setAlarm 28 = .ok (.getfield 131, 3) := by decide +kernel
theorem dX9_setAlarm_31 : decode cX9_setAlarm 31 = .ok (.iload_n 1, 1) := by decide +kernel
theorem dX9_setAlarm_32 : decode cX9_setAlarm 32 = .ok (.aaload, 1) := by decide +kernel
theorem dX9_setAlarm_33 : decode cX9_setAlarm 33 = .ok (.getfield 172, 3) := by decide +kernel
theorem dX9_setAlarm_36 : decode cX9_setAlarm 36 = .ok (.istore_n 3, 1) := by decide +kernel
theorem dX9_setAlarm_37 : decode cX9_setAlarm 37 = .ok (.aload_n 0, 1) := by decide +kernel
theorem dX9_setAlarm_38 : decode cX9_setAlarm 38 = .ok (.getfield 19, 3) := by decide +kernel
theorem dX9_setAlarm_41 : decode cX9_setAlarm 41 = .ok (.getfield 131, 3) := by decide +kernel
theorem dX9_setAlarm_44 : decode cX9_setAlarm 44 = .ok (.iload_n 1, 1) := by decide +kernel
theorem dX9_setAlarm_45 : decode cX9_setAlarm 45 = .ok (.aaload, 1) := by decide +kernel
theorem dX9_setAlarm_46 : decode cX9_setAlarm 46 = .ok (.iload_n 2, 1) := by decide +kernel
theorem dX9_setAlarm_47 : decode cX9_setAlarm 47 = .ok (.sipush 1440, 3) := by decide +kernel
theorem dX9_setAlarm_50 : decode cX9_setAlarm 50 = .ok (.if_icmp .ne 8, 3) := by decide +kernel
theorem dX9_setAlarm_53 : decode cX9_setAlarm 53 = .ok (.ldc 63, 2) := by decide +kernel
theorem dX9_setAlarm_55 : decode cX9_setAlarm 55 = .ok (.goto 4, 3) := by decide +kernel
theorem dX9_setAlarm_58 : decode cX9_setAlarm 58 = .ok (.iload_n 2, 1) := by decide +kernel
theorem dX9_setAlarm_59 : decode cX9_setAlarm 59 = .ok (.invokevirtual 175, 3) := by decide +kernel
theorem dX9_setAlarm_62 : decode cX9_setAlarm 62 = .ok (.iload_n 3, 1) := by decide +kernel
theorem dX9_setAlarm_63 : decode cX9_setAlarm 63 = .ok (.ireturn, 1) := by decide +kernel
set_option maxRecDepth 20000 in
theorem ggX9_battery_X9_needRange : GoodIn wsX9_battery wsX9_needRange := goodIn_ca (goodIn_r _ [7, 8, 9] (by decide +kernel) (by decide +kernel)) (goodIn_sub (fun _ h => List.mem_cons_of_mem _ (List.mem_append_right _ h)) (by decide +kernel))
set_option maxRecDepth 20000 in
theorem gX9_battery_X9_needRange : GoodIn wsX9_battery (va_wsS RX9 40 yX9_needRange wsX9_needRange) := goodIn_app (goodIn_of _ (by decide +kernel)) ggX9_battery_X9_needRange
set_option maxRecDepth 20000 in
theorem ggX9_battery_X2_remember : GoodIn wsX9_battery wsX2_remember := goodIn_r _ [14, 15, 16, 17, 18, 19, 13, 20, 21, 22, 23, 24, 25, 26, 27, 28, 29, 30, 31, 32, 33, 34, 35, 36, 37, 38, 39, 40, 41, 42, 43, 44, 45, 46, 47, 48, 49, 50, 51, 52, 53, 54, 55, 56, 57, 58, 59, 60, 61, 62, 63, 64, 65, 66, 67, 68, 69, 70, 71, 72, 73, 74, 75, 76, 77, 126, 127, 120, 121, 122, 123, 124, 125, 128, 129, 130, 131, 132, 133, 134, 135, 136, 137, 138, 139, 140, 141, 142, 143, 144, 145, 146, 147] (by decide +kernel) (by decide +kernel)
set_option maxRecDepth 20000 in
theorem gX9_battery_X2_remember : GoodIn wsX9_battery (wsV RX9 138 RX2 yX2_remember wsX2_remember) := goodIn_app (goodIn_of _ (by decide +kernel)) ggX9_battery_X2_remember
set_option maxRecDepth 20000 in
theorem ggX9_battery_X5_changeBattery : GoodIn wsX9_battery wsX5_changeBattery := goodIn_r _ [81, 28, 82, 83, 84, 85, 51, 86, 55, 56, 87, 88, 89, 24, 90, 91, 92, 93, 94, 95, 27, 29, 96, 35, 97, 98, 99, 100, 39, 101, 41, 42, 43, 102, 103, 104, 105, 30, 106, 107, 108, 109, 110, 111, 112, 73, 113, 76, 77, 120, 121, 122, 123, 124, 125, 135, 136, 137, 138, 139, 140, 141, 142, 143, 144, 145, 146, 147, 128, 129, 130, 131, 132, 133, 134] (by decide +kernel) (by decide +kernel)
set_option maxRecDepth 20000 in
theorem gX9_battery_X5_changeBattery : GoodIn wsX9_battery (wsV RX9 176 RX5 yX5_changeBattery wsX5_changeBattery) := goodIn_app (goodIn_of _ (by decide +kernel)) ggX9_battery_X5_changeBattery
set_option maxRecDepth 20000 in
theorem ggX9_battery_X6_domain : GoodIn wsX9_battery wsX6_domain := goodIn_r _ [86, 55, 56, 135, 136, 137, 138] (by decide +kernel) (by decide +kernel)
set_option maxRecDepth 20000 in
theorem gX9_battery_X6_domain : GoodIn wsX9_battery (wsV RX9 150 RX6 yX6_domain wsX6_domain) := goodIn_app (goodIn_of _ (by decide +kernel)) ggX9_battery_X6_domain
theorem dX9_battery_0 : decode cX9_battery 0 = .ok (.iload_n 1, 1) := by decide +kernel
theorem dX9_battery_1 : decode cX9_battery 1 = .ok (.iconst 0, 1) := by decide +kernel
theorem dX9_battery_2 : decode cX9_battery 2 = .ok (.sipush 9999, 3) := by decide +kernel
theorem dX9_battery_5 : decode cX9_battery 5 = .ok (.invokestatic 40, 3) := by decide +kernel
theorem dX9_battery_8 : decode cX9_battery 8 = .ok (.aload_n 0, 1) := by decide +kernel
theorem dX9_battery_9 : decode cX9_battery 9 = .ok (.getfield 29, 3) := by decide +kernel
theorem dX9_battery_12 : decode cX9_battery 12 = .ok (.aload_n 0, 1) := by decide +kernel
theorem dX9_battery_13 : decode cX9_battery 13 = .ok (.getfield 19, 3) := by decide +kernel
theorem dX9_battery_16 : decode cX9_battery 16 = .ok (.invokevirtual 138, 3) := by decide +kernel
theorem dX9_battery_19 : decode cX9_battery 19 = .ok (.aload_n 0, 1) := by decide +kernel
theorem dX9_battery_20 : decode cX9_battery 20 = .ok (.getfield 19, 3) := by decide +kernel
theorem dX9_battery_23 : decode cX9_battery 23 = .ok (.iload_n 1, 1) := by decide +kernel
theorem dX9_battery_24 : decode cX9_battery 24 = .ok (.invokevirtual 176, 3) := by decide +kernel
theorem dX9_battery_27 : decode cX9_battery 27 = .ok (.aload_n 0, 1) := by decide +kernel
theorem dX9_battery_28 : decode cX9_battery 28 = .ok (.getfield 19, 3) := by decide +kernel
theorem dX9_battery_31 : decode cX9_battery 31 = .ok (.getfield 84, 3) := by decide +kernel
theorem dX9_battery_34 : decode cX9_battery 34 = .ok (.invokevirtual 150, 3) := by decide +kernel
theorem dX9_battery_37 : decode cX9_battery 37 = .ok (.ireturn, 1) := by decide +kernel
set_option maxRecDepth 20000 in
theorem ggX9_undo_X2_takeBackInto : GoodIn wsX9_undo wsX2_takeBackInto := goodIn_r _ [10, 11, 12, 13, 14, 15, 16, 17, 18, 19, 20, 21, 22, 23, 24, 25, 26, 27, 28, 29, 30, 31, 32, 33, 34, 35, 36, 37, 38, 39, 40, 41, 42, 43, 44, 45, 46, 47, 48, 49, 50, 51, 52, 53, 54, 55, 56, 57, 58, 59, 60, 61, 62, 63, 64, 65, 66, 67, 68, 69, 75, 76, 77, 78, 79, 80, 81, 82, 83, 84, 85, 86, 87, 88, 89, 90, 91, 92, 93, 94, 95, 96, 97, 98, 99, 100, 101, 102] (by decide +kernel) (by decide +kernel)
set_option maxRecDepth 20000 in
theorem gX9_undo_X2_takeBackInto : GoodIn wsX9_undo (wsV RX9 184 RX2 yX2_takeBackInto wsX2_takeBackInto) := goodIn_app (goodIn_of _ (by decide +kernel)) ggX9_undo_X2_takeBackInto
theorem dX9_undo_0 : decode cX9_undo 0 = .ok (.aload_n 0, 1) := by decide +kernel
theorem dX9_undo_1 : decode cX9_undo 1 = .ok (.getfield 29, 3) := by decide +kernel
theorem dX9_undo_4 : decode cX9_undo 4 = .ok (.getfield 179, 3) := by decide +kernel
theorem dX9_undo_7 : decode cX9_undo 7 = .ok (.ifCond .gt 13, 3) := by decide +kernel
theorem dX9_undo_10 : decode cX9_undo 10 = .ok (.new 48, 3) := by decide +kernel
theorem dX9_undo_13 : decode cX9_undo 13 = .ok (.dup, 1) := by decide +kernel
theorem dX9_undo_14 : decode cX9_undo 14 = .ok (.ldc 182, 2) := by decide +kernel
theorem dX9_undo_16 : decode cX9_undo 16 = .ok (.invokespecial 52, 3) := by decide +kernel
theorem dX9_undo_19 : decode cX9_undo 19 = .ok (.athrow, 1) := by decide +kernel
theorem dX9_undo_20 : decode cX9_undo 20 = .ok (.aload_n 0, 1) := by decide +kernel
theorem dX9_undo_21 : decode cX9_undo 21 = .ok (.getfield 29, 3) := by decide +kernel
theorem dX9_undo_24 : decode cX9_undo 24 = .ok (.aload_n 0, 1) := by decide +kernel
theorem dX9_undo_25 : decode cX9_undo 25 = .ok (.getfield 19, 3) := by decide +kernel
theorem dX9_undo_28 : decode cX9_undo 28 = .ok (.invokevirtual 184, 3) := by decide +kernel
theorem dX9_undo_31 : decode cX9_undo 31 = .ok (.aload_n 0, 1) := by decide +kernel
theorem dX9_undo_32 : decode cX9_undo 32 = .ok (.getfield 29, 3) := by decide +kernel
theorem dX9_undo_35 : decode cX9_undo 35 = .ok (.getfield 179, 3) := by decide +kernel
theorem dX9_undo_38 : decode cX9_undo 38 = .ok (.ireturn, 1) := by decide +kernel
set_option maxRecDepth 20000 in
theorem ggX9_whyNot_X6_domain : GoodIn wsX9_whyNot wsX6_domain := goodIn_r _ [7, 8, 9, 21, 22, 23, 24] (by decide +kernel) (by decide +kernel)
set_option maxRecDepth 20000 in
theorem gX9_whyNot_X6_domain : GoodIn wsX9_whyNot (wsV RX9 150 RX6 yX6_domain wsX6_domain) := goodIn_app (goodIn_of _ (by decide +kernel)) ggX9_whyNot_X6_domain
theorem dX9_whyNot_0 : decode cX9_whyNot 0 = .ok (.aload_n 0, 1) := by decide +kernel
theorem dX9_whyNot_1 : decode cX9_whyNot 1 = .ok (.getfield 19, 3) := by decide +kernel
theorem dX9_whyNot_4 : decode cX9_whyNot 4 = .ok (.getfield 84, 3) := by decide +kernel
theorem dX9_whyNot_7 : decode cX9_whyNot 7 = .ok (.invokevirtual 150, 3) := by decide +kernel
theorem dX9_whyNot_10 : decode cX9_whyNot 10 = .ok (.ireturn, 1) := by decide +kernel
set_option maxRecDepth 20000 in
theorem ggX9_ahead_X9_needRange : GoodIn wsX9_ahead wsX9_needRange := goodIn_ca (goodIn_r _ [7, 8, 9] (by decide +kernel) (by decide +kernel)) (goodIn_sub (fun _ h => List.mem_cons_of_mem _ (List.mem_append_right _ h)) (by decide +kernel))
set_option maxRecDepth 20000 in
theorem gX9_ahead_X9_needRange : GoodIn wsX9_ahead (va_wsS RX9 40 yX9_needRange wsX9_needRange) := goodIn_app (goodIn_of _ (by decide +kernel)) ggX9_ahead_X9_needRange
set_option maxRecDepth 20000 in
theorem ggX9_ahead_X5_copyFrom : GoodIn wsX9_ahead wsX5_copyFrom := goodIn_r _ [14, 15, 16, 17, 18, 19, 20, 21, 22, 23, 24, 25, 26, 27, 28, 29, 30, 31, 32, 33, 34, 35, 36, 37, 38, 39, 40, 41, 42, 43, 44, 45, 46, 47, 48, 49, 50, 51, 52, 53, 54, 55, 56, 57, 58, 59, 60, 61, 62, 63, 64, 65, 66, 166, 167, 168, 169, 170, 171, 172, 173, 174, 175, 176, 177, 178, 179, 180, 181, 182, 183, 184, 185, 186, 187, 188, 189, 190, 191] (by decide +kernel) (by decide +kernel)
set_option maxRecDepth 20000 in
theorem gX9_ahead_X5_copyFrom : GoodIn wsX9_ahead (wsV RX9 66 RX5 yX5_copyFrom wsX5_copyFrom) := goodIn_app (goodIn_of _ (by decide +kernel)) ggX9_ahead_X5_copyFrom
set_option maxRecDepth 20000 in
theorem ggX9_ahead_X5_passMinutes : GoodIn wsX9_ahead wsX5_passMinutes := goodIn_r _ [70, 71, 72, 73, 13, 74, 17, 15, 75, 76, 77, 40, 78, 44, 45, 79, 80, 81, 82, 42, 83, 84, 85, 86, 87, 88, 89, 90, 91, 92, 16, 18, 93, 24, 94, 95, 96, 97, 28, 98, 30, 31, 32, 99, 100, 101, 102, 19, 103, 104, 105, 106, 107, 108, 109, 62, 110, 65, 66, 111, 112, 113, 114, 115, 116, 117, 118, 119, 120, 121, 122, 33, 34, 35, 36, 123, 124, 125, 126, 127, 64, 128, 129, 130, 131, 166, 167, 168, 169, 170, 171, 179, 180, 181, 182, 183, 184, 185, 186, 187, 188, 189, 190, 191, 172, 173, 174, 175, 176, 177, 178] (by decide +kernel) (by decide +kernel)
set_option maxRecDepth 20000 in
theorem gX9_ahead_X5_passMinutes : GoodIn wsX9_ahead (wsV RX9 141 RX5 yX5_passMinutes wsX5_passMinutes) := goodIn_app (goodIn_of _ (by decide +kernel)) ggX9_ahead_X5_passMinutes
set_option maxRecDepth 20000 in
theorem ggX9_ahead_X5_tell : GoodIn wsX9_ahead wsX5_tell := goodIn_r _ [135, 15, 16, 136, 137, 138, 139, 140, 17, 141, 142, 18, 93, 143, 92, 144, 145, 146, 13, 147, 75, 76, 77, 40, 78, 44, 45, 148, 149, 150, 151, 24, 152, 153, 154, 155, 156, 157, 158, 159, 62, 160, 64, 65, 66, 166, 167, 168, 169, 170, 171, 172, 173, 174, 175, 176, 177, 178, 179, 180, 181, 182, 183, 184, 185, 186, 187, 188, 189, 190, 191] (by decide +kernel) (by decide +kernel)
set_option maxRecDepth 20000 in
theorem gX9_ahead_X5_tell : GoodIn wsX9_ahead (wsV RX9 80 RX5 yX5_tell wsX5_tell) := goodIn_app (goodIn_of _ (by decide +kernel)) ggX9_ahead_X5_tell
theorem dX9_ahead_0 : decode cX9_ahead 0 = .ok (.iload_n 1, 1) := by decide +kernel
theorem dX9_ahead_1 : decode cX9_ahead 1 = .ok (.iconst 0, 1) := by decide +kernel
theorem dX9_ahead_2 : decode cX9_ahead 2 = .ok (.sipush 1440, 3) := by decide +kernel
theorem dX9_ahead_5 : decode cX9_ahead 5 = .ok (.invokestatic 40, 3) := by decide +kernel
theorem dX9_ahead_8 : decode cX9_ahead 8 = .ok (.iload_n 2, 1) := by decide +kernel
theorem dX9_ahead_9 : decode cX9_ahead 9 = .ok (.iconst 0, 1) := by decide +kernel
theorem dX9_ahead_10 : decode cX9_ahead 10 = .ok (.getstatic 187, 3) := by decide +kernel
theorem dX9_ahead_13 : decode cX9_ahead 13 = .ok (.arraylength, 1) := by decide +kernel
theorem dX9_ahead_14 : decode cX9_ahead 14 = .ok (.iconst 1, 1) := by decide +kernel
theorem dX9_ahead_15 : decode cX9_ahead 15 = .ok (.isub, 1) := by decide +kernel
theorem dX9_ahead_16 : decode cX9_ahead 16 = .ok (.invokestatic 40, 3) := by decide +kernel
theorem dX9_ahead_19 : decode cX9_ahead 19 = .ok (.aload_n 0, 1) := by decide +kernel
theorem dX9_ahead_20 : decode cX9_ahead 20 = .ok (.getfield 23, 3) := by decide +kernel
theorem dX9_ahead_23 : decode cX9_ahead 23 = .ok (.aload_n 0, 1) := by decide +kernel
theorem dX9_ahead_24 : decode cX9_ahead 24 = .ok (.getfield 19, 3) := by decide +kernel
theorem dX9_ahead_27 : decode cX9_ahead 27 = .ok (.invokevirtual 66, 3) := by decide +kernel
theorem dX9_ahead_30 : decode cX9_ahead 30 = .ok (.aload_n 0, 1) := by decide +kernel
theorem dX9_ahead_31 : decode cX9_ahead 31 = .ok (.getfield 23, 3) := by decide +kernel
theorem dX9_ahead_34 : decode cX9_ahead 34 = .ok (.iload_n 1, 1) := by decide +kernel
theorem dX9_ahead_35 : decode cX9_ahead 35 = .ok (.invokevirtual 141, 3) := by decide +kernel
theorem dX9_ahead_38 : decode cX9_ahead 38 = .ok (.aload_n 0, 1) := by decide +kernel
theorem dX9_ahead_39 : decode cX9_ahead 39 = .ok (.getfield 23, 3) := by decide +kernel
theorem dX9_ahead_42 : decode cX9_ahead 42 = .ok (.getstatic 187, 3) := by decide +kernel
theorem dX9_ahead_45 : decode cX9_ahead 45 = .ok (.iload_n 2, 1) := by decide +kernel
theorem dX9_ahead_46 : decode cX9_ahead 46 = .ok (.iaload, 1) := by decide +kernel
theorem dX9_ahead_47 : decode cX9_ahead 47 = .ok (.invokevirtual 80, 3) := by decide +kernel
theorem dX9_ahead_50 : decode cX9_ahead 50 = .ok (.ireturn, 1) := by decide +kernel
set_option maxRecDepth 20000 in
theorem ggX9_endsAfter_X6_minutesLeft : GoodIn wsX9_endsAfter wsX6_minutesLeft := goodIn_r _ [7, 8, 9, 10, 11, 12, 6, 13, 14, 26, 27, 28, 29] (by decide +kernel) (by decide +kernel)
set_option maxRecDepth 20000 in
theorem gX9_endsAfter_X6_minutesLeft : GoodIn wsX9_endsAfter (wsV RX9 190 RX6 yX6_minutesLeft wsX6_minutesLeft) := goodIn_app (goodIn_of _ (by decide +kernel)) ggX9_endsAfter_X6_minutesLeft
theorem dX9_endsAfter_0 : decode cX9_endsAfter 0 = .ok (.aload_n 0, 1) := by decide +kernel
theorem dX9_endsAfter_1 : decode cX9_endsAfter 1 = .ok (.getfield 19, 3) := by decide +kernel
theorem dX9_endsAfter_4 : decode cX9_endsAfter 4 = .ok (.getfield 84, 3) := by decide +kernel
theorem dX9_endsAfter_7 : decode cX9_endsAfter 7 = .ok (.invokevirtual 190, 3) := by decide +kernel
theorem dX9_endsAfter_10 : decode cX9_endsAfter 10 = .ok (.ireturn, 1) := by decide +kernel
set_option maxRecDepth 20000 in
theorem ggX9_dueAfter_X9_needIndex : GoodIn wsX9_dueAfter wsX9_needIndex := goodIn_ca (goodIn_r _ [9, 10, 11] (by decide +kernel) (by decide +kernel)) (goodIn_sub (fun _ h => List.mem_cons_of_mem _ (List.mem_append_right _ h)) (by decide +kernel))
set_option maxRecDepth 20000 in
theorem gX9_dueAfter_X9_needIndex : GoodIn wsX9_dueAfter (va_wsS RX9 107 yX9_needIndex wsX9_needIndex) := goodIn_app (goodIn_of _ (by decide +kernel)) ggX9_dueAfter_X9_needIndex
set_option maxRecDepth 20000 in
theorem ggX9_dueAfter_X5_copyFrom : GoodIn wsX9_dueAfter wsX5_copyFrom := goodIn_r _ [16, 17, 18, 19, 20, 21, 22, 23, 24, 25, 26, 27, 28, 29, 30, 31, 32, 33, 34, 35, 36, 37, 38, 39, 40, 41, 42, 43, 44, 45, 46, 47, 48, 49, 50, 51, 52, 53, 54, 55, 56, 57, 58, 59, 60, 61, 62, 63, 64, 65, 66, 67, 68, 137, 138, 139, 140, 141, 142, 143, 144, 145, 146, 147, 148, 149, 150, 151, 152, 153, 154, 155, 156, 157, 158, 159, 160, 161, 162] (by decide +kernel) (by decide +kernel)
set_option maxRecDepth 20000 in
theorem gX9_dueAfter_X5_copyFrom : GoodIn wsX9_dueAfter (wsV RX9 66 RX5 yX5_copyFrom wsX5_copyFrom) := goodIn_app (goodIn_of _ (by decide +kernel)) ggX9_dueAfter_X5_copyFrom
set_option maxRecDepth 20000 in
theorem ggX9_dueAfter_X1_minute : GoodIn wsX9_dueAfter wsX1_minute := goodIn_r _ [72, 32, 143, 144, 145, 146, 147, 148, 149] (by decide +kernel) (by decide +kernel)
set_option maxRecDepth 20000 in
theorem gX9_dueAfter_X1_minute : GoodIn wsX9_dueAfter (wsV RX9 193 RX1 yX1_minute wsX1_minute) := goodIn_app (goodIn_of _ (by decide +kernel)) ggX9_dueAfter_X1_minute
set_option maxRecDepth 20000 in
theorem ggX9_dueAfter_X5_passMinute : GoodIn wsX9_dueAfter wsX5_passMinute := goodIn_r _ [76, 19, 17, 77, 78, 79, 42, 80, 46, 47, 81, 82, 83, 84, 44, 85, 86, 87, 88, 15, 89, 90, 91, 92, 93, 94, 18, 20, 95, 26, 96, 97, 98, 99, 30, 100, 32, 33, 34, 101, 102, 103, 104, 21, 105, 106, 107, 108, 109, 110, 111, 64, 112, 67, 68, 113, 114, 115, 116, 117, 70, 71, 72, 118, 119, 120, 121, 35, 36, 37, 38, 122, 123, 124, 125, 126, 66, 127, 128, 129, 130, 137, 138, 139, 140, 141, 142, 150, 151, 152, 153, 154, 155, 156, 157, 158, 159, 160, 161, 162, 143, 144, 145, 146, 147, 148, 149] (by decide +kernel) (by decide +kernel)
set_option maxRecDepth 20000 in
theorem gX9_dueAfter_X5_passMinute : GoodIn wsX9_dueAfter (wsV RX9 195 RX5 yX5_passMinute wsX5_passMinute) := goodIn_app (goodIn_of _ (by decide +kernel)) ggX9_dueAfter_X5_passMinute
set_option maxRecDepth 20000 in
theorem ggX9_dueAfter_X0_isDue : GoodIn wsX9_dueAfter wsX0_isDue := goodIn_r _ [126, 66, 160, 161, 162] (by decide +kernel) (by decide +kernel)
set_option maxRecDepth 20000 in
theorem gX9_dueAfter_X0_isDue : GoodIn wsX9_dueAfter (wsV RX9 198 RX0 yX0_isDue wsX0_isDue) := goodIn_app (goodIn_of _ (by decide +kernel)) ggX9_dueAfter_X0_isDue
theorem dX9_dueAfter_0 : decode cX9_dueAfter 0 = .ok (.iload_n 1, 1) := by decide +kernel
theorem dX9_dueAfter_1 : decode cX9_dueAfter 1 = .ok (.iconst 4, 1) := by decide +kernel
theorem dX9_dueAfter_2 : decode cX9_dueAfter 2 = .ok (.invokestatic 107, 3) := by decide +kernel
theorem dX9_dueAfter_5 : decode cX9_dueAfter 5 = .ok (.aload_n 0, 1) := by decide +kernel
theorem dX9_dueAfter_6 : decode cX9_dueAfter 6 = .ok (.getfield 23, 3) := by decide +kernel
theorem dX9_dueAfter_9 : decode cX9_dueAfter 9 = .ok (.aload_n 0, 1) := by decide +kernel
theorem dX9_dueAfter_10 : decode cX9_dueAfter 10 = .ok (.getfield 19, 3) := by decide +kernel
theorem dX9_dueAfter_13 : decode cX9_dueAfter 13 = .ok (.invokevirtual 66, 3) := by decide +kernel
theorem dX9_dueAfter_16 : decode cX9_dueAfter 16 = .ok (.iconst 1, 1) := by decide +kernel
theorem dX9_dueAfter_17 : decode cX9_dueAfter 17 = .ok (.istore_n 2, 1) := by decide +kernel
theorem dX9_dueAfter_18 : decode cX9_dueAfter 18 = .ok (.iload_n 2, 1) := by decide +kernel
theorem dX9_dueAfter_19 : decode cX9_dueAfter 19 = .ok (.sipush 3000, 3) := by decide +kernel
theorem dX9_dueAfter_22 : decode cX9_dueAfter 22 = .ok (.if_icmp .gt 55, 3) := by decide +kernel
theorem dX9_dueAfter_25 : decode cX9_dueAfter 25 = .ok (.aload_n 0, 1) := by decide +kernel
theorem dX9_dueAfter_26 : decode cX9_dueAfter 26 = .ok (.getfield 23, 3) := by decide +kernel
theorem dX9_dueAfter_29 : decode cX9_dueAfter 29 = .ok (.getfield 94, 3) := by decide +kernel
theorem dX9_dueAfter_32 : decode cX9_dueAfter 32 = .ok (.invokevirtual 193, 3) := by decide +kernel
theorem dX9_dueAfter_35 : decode cX9_dueAfter 35 = .ok (.istore_n 3, 1) := by decide +kernel
theorem dX9_dueAfter_36 : decode cX9_dueAfter 36 = .ok (.aload_n 0, 1) := by decide +kernel
theorem dX9_dueAfter_37 : decode cX9_dueAfter 37 = .ok (.getfield 23, 3) := by decide +kernel
theorem dX9_dueAfter_40 : decode cX9_dueAfter 40 = .ok (.invokevirtual 195, 3) := by decide +kernel
theorem dX9_dueAfter_43 : decode cX9_dueAfter 43 = .ok (.aload_n 0, 1) := by decide +kernel
theorem dX9_dueAfter_44 : decode cX9_dueAfter 44 = .ok (.getfield 23, 3) := by decide +kernel
theorem dX9_dueAfter_47 : decode cX9_dueAfter 47 = .ok (.getfield 131, 3) := by decide +kernel
theorem dX9_dueAfter_50 : decode cX9_dueAfter 50 = .ok (.iload_n 1, 1) := by decide +kernel
theorem dX9_dueAfter_51 : decode cX9_dueAfter 51 = .ok (.aaload, 1) := by decide +kernel
theorem dX9_dueAfter_52 : decode cX9_dueAfter 52 = .ok (.iload_n 3, 1) := by decide +kernel
theorem dX9_dueAfter_53 : decode cX9_dueAfter 53 = .ok (.aload_n 0, 1) := by decide +kernel
theorem dX9_dueAfter_54 : decode cX9_dueAfter 54 = .ok (.getfield 23, 3) := by decide +kernel
theorem dX9_dueAfter_57 : decode cX9_dueAfter 57 = .ok (.getfield 94, 3) := by decide +kernel
theorem dX9_dueAfter_60 : decode cX9_dueAfter 60 = .ok (.invokevirtual 193, 3) := by decide +kernel
theorem dX9_dueAfter_63 : decode cX9_dueAfter 63 = .ok (.invokevirtual 198, 3) := by decide +kernel
theorem dX9_dueAfter_66 : decode cX9_dueAfter 66 = .ok (.ifCond .eq 5, 3) := by decide +kernel
theorem dX9_dueAfter_69 : decode cX9_dueAfter 69 = .ok (.iload_n 2, 1) := by decide +kernel
theorem dX9_dueAfter_70 : decode cX9_dueAfter 70 = .ok (.ireturn, 1) := by decide +kernel
theorem dX9_dueAfter_71 : decode cX9_dueAfter 71 = .ok (.iinc 2 1, 3) := by decide +kernel
theorem dX9_dueAfter_74 : decode cX9_dueAfter 74 = .ok (.goto (-56), 3) := by decide +kernel
theorem dX9_dueAfter_77 : decode cX9_dueAfter 77 = .ok (.ldc 63, 2) := by decide +kernel
theorem dX9_dueAfter_79 : decode cX9_dueAfter 79 = .ok (.ireturn, 1) := by decide +kernel
set_option maxRecDepth 20000 in
theorem ggX9_bestCorrection_X9_needRange : GoodIn wsX9_bestCorrection wsX9_needRange := goodIn_ca (goodIn_r _ [5, 6, 7] (by decide +kernel) (by decide +kernel)) (goodIn_sub (fun _ h => List.mem_cons_of_mem _ (List.mem_append_right _ h)) (by decide +kernel))
set_option maxRecDepth 20000 in
theorem gX9_bestCorrection_X9_needRange : GoodIn wsX9_bestCorrection (va_wsS RX9 40 yX9_needRange wsX9_needRange) := goodIn_app (goodIn_of _ (by decide +kernel)) ggX9_bestCorrection_X9_needRange
set_option maxRecDepth 20000 in
theorem ggX9_bestCorrection_X5_isDeadWithin : GoodIn wsX9_bestCorrection wsX5_isDeadWithin := goodIn_r _ [12, 13, 14, 15, 16, 17, 18, 19, 20, 21, 22, 23, 24, 25, 26, 59, 60, 61, 62, 63, 64, 65, 66, 67, 68] (by decide +kernel) (by decide +kernel)
set_option maxRecDepth 20000 in
theorem gX9_bestCorrection_X5_isDeadWithin : GoodIn wsX9_bestCorrection (wsV RX9 202 RX5 yX5_isDeadWithin wsX5_isDeadWithin) := goodIn_app (goodIn_of _ (by decide +kernel)) ggX9_bestCorrection_X5_isDeadWithin
set_option maxRecDepth 20000 in
theorem ggX9_bestCorrection_X5_nearer : GoodIn wsX9_bestCorrection wsX5_nearer := goodIn_r _ [30, 31, 32, 33, 11, 34, 35, 36, 37, 38, 39, 40, 41, 42, 43, 44, 45, 46, 47, 48, 49, 50, 51, 52, 53, 59, 60, 61, 62, 63, 64, 69, 70, 71, 72, 73, 74, 75] (by decide +kernel) (by decide +kernel)
set_option maxRecDepth 20000 in
theorem gX9_bestCorrection_X5_nearer : GoodIn wsX9_bestCorrection (wsV RX9 206 RX5 yX5_nearer wsX5_nearer) := goodIn_app (goodIn_of _ (by decide +kernel)) ggX9_bestCorrection_X5_nearer
theorem dX9_bestCorrection_0 : decode cX9_bestCorrection 0 = .ok (.iload_n 1, 1) := by decide +kernel
theorem dX9_bestCorrection_1 : decode cX9_bestCorrection 1 = .ok (.iconst 1, 1) := by decide +kernel
theorem dX9_bestCorrection_2 : decode cX9_bestCorrection 2 = .ok (.sipush 600, 3) := by decide +kernel
theorem dX9_bestCorrection_5 : decode cX9_bestCorrection 5 = .ok (.invokestatic 40, 3) := by decide +kernel
theorem dX9_bestCorrection_8 : decode cX9_bestCorrection 8 = .ok (.aload_n 0, 1) := by decide +kernel
theorem dX9_bestCorrection_9 : decode cX9_bestCorrection 9 = .ok (.getfield 19, 3) := by decide +kernel
theorem dX9_bestCorrection_12 : decode cX9_bestCorrection 12 = .ok (.iload_n 1, 1) := by decide +kernel
theorem dX9_bestCorrection_13 : decode cX9_bestCorrection 13 = .ok (.invokevirtual 202, 3) := by decide +kernel
theorem dX9_bestCorrection_16 : decode cX9_bestCorrection 16 = .ok (.ifCond .eq 5, 3) := by decide +kernel
theorem dX9_bestCorrection_19 : decode cX9_bestCorrection 19 = .ok (.iconst 0, 1) := by decide +kernel
theorem dX9_bestCorrection_20 : decode cX9_bestCorrection 20 = .ok (.ireturn, 1) := by decide +kernel
theorem dX9_bestCorrection_21 : decode cX9_bestCorrection 21 = .ok (.iconst 0, 1) := by decide +kernel
theorem dX9_bestCorrection_22 : decode cX9_bestCorrection 22 = .ok (.istore_n 2, 1) := by decide +kernel
theorem dX9_bestCorrection_23 : decode cX9_bestCorrection 23 = .ok (.iconst 1, 1) := by decide +kernel
theorem dX9_bestCorrection_24 : decode cX9_bestCorrection 24 = .ok (.istore_n 3, 1) := by decide +kernel
theorem dX9_bestCorrection_25 : decode cX9_bestCorrection 25 = .ok (.iload_n 3, 1) := by decide +kernel
theorem dX9_bestCorrection_26 : decode cX9_bestCorrection 26 = .ok (.sipush 500, 3) := by decide +kernel
theorem dX9_bestCorrection_29 : decode cX9_bestCorrection 29 = .ok (.if_icmp .gt 32, 3) := by decide +kernel
theorem dX9_bestCorrection_32 : decode cX9_bestCorrection 32 = .ok (.aload_n 0, 1) := by decide +kernel
theorem dX9_bestCorrection_33 : decode cX9_bestCorrection 33 = .ok (.getfield 19, 3) := by decide +kernel
theorem dX9_bestCorrection_36 : decode cX9_bestCorrection 36 = .ok (.iload_n 1, 1) := by decide +kernel
theorem dX9_bestCorrection_37 : decode cX9_bestCorrection 37 = .ok (.iload_n 2, 1) := by decide +kernel
theorem dX9_bestCorrection_38 : decode cX9_bestCorrection 38 = .ok (.iload_n 3, 1) := by decide +kernel
theorem dX9_bestCorrection_39 : decode cX9_bestCorrection 39 = .ok (.ineg, 1) := by decide +kernel
theorem dX9_bestCorrection_40 : decode cX9_bestCorrection 40 = .ok (.invokevirtual 206, 3) := by decide +kernel
theorem dX9_bestCorrection_43 : decode cX9_bestCorrection 43 = .ok (.istore_n 2, 1) := by decide +kernel
theorem dX9_bestCorrection_44 : decode cX9_bestCorrection 44 = .ok (.aload_n 0, 1) := by decide +kernel
theorem dX9_bestCorrection_45 : decode cX9_bestCorrection 45 = .ok (.getfield 19, 3) := by decide +kernel
theorem dX9_bestCorrection_48 : decode cX9_bestCorrection 48 = .ok (.iload_n 1, 1) := by decide +kernel
theorem dX9_bestCorrection_49 : decode cX9_bestCorrection 49 = .ok (.iload_n 2, 1) := by decide +kernel
theorem dX9_bestCorrection_50 : decode cX9_bestCorrection 50 = .ok (.iload_n 3, 1) := by decide +kernel
theorem dX9_bestCorrection_51 : decode cX9_bestCorrection 51 = .ok (.invokevirtual 206, 3) := by decide +kernel
theorem dX9_bestCorrection_54 : decode cX9_bestCorrection 54 = .ok (.istore_n 2, 1) := by decide +kernel
theorem dX9_bestCorrection_55 : decode cX9_bestCorrection 55 = .ok (.iinc 3 1, 3) := by decide +kernel
theorem dX9_bestCorrection_58 : decode cX9_bestCorrection 58 = .ok (.goto (-33), 3) := by decide +kernel
theorem dX9_bestCorrection_61 : decode cX9_bestCorrection 61 = .ok (.iload_n 2, 1) := by decide +kernel
theorem dX9_bestCorrection_62 : decode cX9_bestCorrection 62 = .ok (.ireturn, 1) := by decide +kernel
set_option maxRecDepth 20000 in
theorem ggX9_runScript_X9_needRange : GoodIn wsX9_runScript wsX9_needRange := goodIn_ca (goodIn_r _ [9, 1, 2] (by decide +kernel) (by decide +kernel)) (goodIn_sub (fun _ h => List.mem_cons_of_mem _ (List.mem_append_right _ h)) (by decide +kernel))
set_option maxRecDepth 20000 in
theorem gX9_runScript_X9_needRange : GoodIn wsX9_runScript (va_wsS RX9 40 yX9_needRange wsX9_needRange) := goodIn_app (goodIn_of _ (by decide +kernel)) ggX9_runScript_X9_needRange
set_option maxRecDepth 20000 in
theorem ggX9_runScript_X3_fits : GoodIn wsX9_runScript wsX3_fits := goodIn_r _ [13, 14] (by decide +kernel) (by decide +kernel)
set_option maxRecDepth 20000 in
theorem gX9_runScript_X3_fits : GoodIn wsX9_runScript (va_wsS RX9 210 yX3_fits wsX3_fits) := goodIn_app (goodIn_of _ (by decide +kernel)) ggX9_runScript_X3_fits
set_option maxRecDepth 20000 in
theorem ggX9_runScript_X5_copyFrom : GoodIn wsX9_runScript wsX5_copyFrom := goodIn_r _ [19, 20, 21, 22, 23, 24, 25, 26, 27, 28, 29, 30, 31, 32, 33, 34, 35, 36, 37, 38, 39, 40, 41, 42, 43, 44, 45, 46, 47, 48, 49, 50, 51, 52, 53, 54, 55, 56, 57, 58, 59, 60, 61, 62, 63, 64, 65, 66, 67, 68, 69, 70, 71, 203, 204, 205, 206, 207, 208, 209, 210, 211, 212, 213, 214, 215, 216, 217, 218, 219, 220, 221, 222, 223, 224, 225, 226, 227, 228] (by decide +kernel) (by decide +kernel)
set_option maxRecDepth 20000 in
theorem gX9_runScript_X5_copyFrom : GoodIn wsX9_runScript (wsV RX9 66 RX5 yX5_copyFrom wsX5_copyFrom) := goodIn_app (goodIn_of _ (by decide +kernel)) ggX9_runScript_X5_copyFrom
set_option maxRecDepth 20000 in
theorem ggX9_runScript_X3_command : GoodIn wsX9_runScript wsX3_command := goodIn_r _ [74, 14] (by decide +kernel) (by decide +kernel)
set_option maxRecDepth 20000 in
theorem gX9_runScript_X3_command : GoodIn wsX9_runScript (va_wsS RX9 221 yX3_command wsX3_command) := goodIn_app (goodIn_of _ (by decide +kernel)) ggX9_runScript_X3_command
set_option maxRecDepth 20000 in
theorem ggX9_runScript_X3_runs : GoodIn wsX9_runScript wsX3_runs := goodIn_r _ [77, 78, 79, 80, 81, 12, 82, 83, 84, 85, 18, 86, 87, 88, 89, 90, 22, 20, 91, 92, 93, 45, 94, 49, 50, 95, 96, 97, 98, 47, 99, 100, 101, 102, 103, 104, 105, 106, 107, 108, 21, 23, 109, 29, 110, 111, 112, 113, 33, 114, 35, 36, 37, 115, 116, 117, 118, 24, 119, 120, 121, 122, 123, 124, 125, 67, 126, 70, 71, 127, 128, 129, 130, 131, 132, 133, 134, 135, 136, 137, 138, 38, 39, 40, 41, 139, 140, 141, 142, 143, 69, 144, 145, 146, 147, 148, 149, 150, 151, 152, 153, 154, 155, 156, 157, 158, 159, 160, 161, 162, 163, 164, 165, 166, 167, 168, 169, 170, 171, 172, 173, 174, 175, 176, 177, 178, 179, 180, 181, 182, 55, 183, 63, 62, 59, 60, 61, 184, 185, 186, 187, 188, 189, 190, 191, 192, 193, 194, 195, 196, 197, 203, 204, 205, 206, 207, 208, 216, 217, 218, 219, 220, 221, 222, 223, 224, 225, 226, 227, 228, 209, 210, 211, 212, 213, 214, 215] (by decide +kernel) (by decide +kernel)
set_option maxRecDepth 20000 in
theorem gX9_runScript_X3_runs : GoodIn wsX9_runScript (va_wsS RX9 225 yX3_runs wsX3_runs) := goodIn_app (goodIn_of _ (by decide +kernel)) ggX9_runScript_X3_runs
theorem dX9_runScript_0 : decode cX9_runScript 0 = .ok (.iload_n 1, 1) := by decide +kernel
theorem dX9_runScript_1 : decode cX9_runScript 1 = .ok (.iconst 1, 1) := by decide +kernel
theorem dX9_runScript_2 : decode cX9_runScript 2 = .ok (.iconst 3, 1) := by decide +kernel
theorem dX9_runScript_3 : decode cX9_runScript 3 = .ok (.invokestatic 40, 3) := by decide +kernel
theorem dX9_runScript_6 : decode cX9_runScript 6 = .ok (.lload_n 2, 1) := by decide +kernel
theorem dX9_runScript_7 : decode cX9_runScript 7 = .ok (.lconst 0, 1) := by decide +kernel
theorem dX9_runScript_8 : decode cX9_runScript 8 = .ok (.lcmp, 1) := by decide +kernel
theorem dX9_runScript_9 : decode cX9_runScript 9 = .ok (.ifCond .lt 11, 3) := by decide +kernel
theorem dX9_runScript_12 : decode cX9_runScript 12 = .ok (.iload_n 1, 1) := by decide +kernel
theorem dX9_runScript_13 : decode cX9_runScript 13 = .ok (.lload_n 2, 1) := by decide +kernel
theorem dX9_runScript_14 : decode cX9_runScript 14 = .ok (.invokestatic 210, 3) := by decide +kernel
theorem dX9_runScript_17 : decode cX9_runScript 17 = .ok (.ifCond .ne 13, 3) := by decide +kernel
theorem dX9_runScript_20 : decode cX9_runScript 20 = .ok (.new 216, 3) := by decide +kernel
theorem dX9_runScript_23 : decode cX9_runScript 23 = .ok (.dup, 1) := by decide +kernel
theorem dX9_runScript_24 : decode cX9_runScript 24 = .ok (.ldc 218, 2) := by decide +kernel
theorem dX9_runScript_26 : decode cX9_runScript 26 = .ok (.invokespecial 220, 3) := by decide +kernel
theorem dX9_runScript_29 : decode cX9_runScript 29 = .ok (.athrow, 1) := by decide +kernel
theorem dX9_runScript_30 : decode cX9_runScript 30 = .ok (.aload_n 0, 1) := by decide +kernel
theorem dX9_runScript_31 : decode cX9_runScript 31 = .ok (.getfield 23, 3) := by decide +kernel
theorem dX9_runScript_34 : decode cX9_runScript 34 = .ok (.aload_n 0, 1) := by decide +kernel
theorem dX9_runScript_35 : decode cX9_runScript 35 = .ok (.getfield 19, 3) := by decide +kernel
theorem dX9_runScript_38 : decode cX9_runScript 38 = .ok (.invokevirtual 66, 3) := by decide +kernel
theorem dX9_runScript_41 : decode cX9_runScript 41 = .ok (.iconst 0, 1) := by decide +kernel
theorem dX9_runScript_42 : decode cX9_runScript 42 = .ok (.istore 4, 2) := by decide +kernel
theorem dX9_runScript_44 : decode cX9_runScript 44 = .ok (.iload 4, 2) := by decide +kernel
theorem dX9_runScript_46 : decode cX9_runScript 46 = .ok (.iload_n 1, 1) := by decide +kernel
theorem dX9_runScript_47 : decode cX9_runScript 47 = .ok (.if_icmp .ge 29, 3) := by decide +kernel
theorem dX9_runScript_50 : decode cX9_runScript 50 = .ok (.aload_n 0, 1) := by decide +kernel
theorem dX9_runScript_51 : decode cX9_runScript 51 = .ok (.getfield 23, 3) := by decide +kernel
theorem dX9_runScript_54 : decode cX9_runScript 54 = .ok (.iload_n 1, 1) := by decide +kernel
theorem dX9_runScript_55 : decode cX9_runScript 55 = .ok (.lload_n 2, 1) := by decide +kernel
theorem dX9_runScript_56 : decode cX9_runScript 56 = .ok (.iload 4, 2) := by decide +kernel
theorem dX9_runScript_58 : decode cX9_runScript 58 = .ok (.invokestatic 221, 3) := by decide +kernel
theorem dX9_runScript_61 : decode cX9_runScript 61 = .ok (.invokestatic 225, 3) := by decide +kernel
theorem dX9_runScript_64 : decode cX9_runScript 64 = .ok (.ifCond .ne 6, 3) := by decide +kernel
theorem dX9_runScript_67 : decode cX9_runScript 67 = .ok (.iload 4, 2) := by decide +kernel
theorem dX9_runScript_69 : decode cX9_runScript 69 = .ok (.ireturn, 1) := by decide +kernel
theorem dX9_runScript_70 : decode cX9_runScript 70 = .ok (.iinc 4 1, 3) := by decide +kernel
theorem dX9_runScript_73 : decode cX9_runScript 73 = .ok (.goto (-29), 3) := by decide +kernel
theorem dX9_runScript_76 : decode cX9_runScript 76 = .ok (.ldc 63, 2) := by decide +kernel
theorem dX9_runScript_78 : decode cX9_runScript 78 = .ok (.ireturn, 1) := by decide +kernel
set_option maxRecDepth 20000 in
theorem ggX9_simulate_X9_needRange : GoodIn wsX9_simulate wsX9_needRange := goodIn_ca (goodIn_r _ [12, 13, 14] (by decide +kernel) (by decide +kernel)) (goodIn_sub (fun _ h => List.mem_cons_of_mem _ (List.mem_append_right _ h)) (by decide +kernel))
set_option maxRecDepth 20000 in
theorem gX9_simulate_X9_needRange : GoodIn wsX9_simulate (va_wsS RX9 40 yX9_needRange wsX9_needRange) := goodIn_app (goodIn_of _ (by decide +kernel)) ggX9_simulate_X9_needRange
set_option maxRecDepth 20000 in
theorem ggX9_simulate_X5_copyFrom : GoodIn wsX9_simulate wsX5_copyFrom := goodIn_r _ [19, 20, 21, 22, 23, 24, 25, 26, 27, 28, 29, 30, 31, 32, 33, 34, 35, 36, 37, 38, 39, 40, 41, 42, 43, 44, 45, 46, 47, 48, 49, 50, 51, 52, 53, 54, 55, 56, 57, 58, 59, 60, 61, 62, 63, 64, 65, 66, 67, 68, 69, 70, 71, 158, 159, 160, 161, 162, 163, 174, 175, 176, 177, 178, 179, 180, 164, 165, 166, 167, 168, 169, 170, 171, 172, 173, 181, 182, 183] (by decide +kernel) (by decide +kernel)
set_option maxRecDepth 20000 in
theorem gX9_simulate_X5_copyFrom : GoodIn wsX9_simulate (wsV RX9 66 RX5 yX5_copyFrom wsX5_copyFrom) := goodIn_app (goodIn_of _ (by decide +kernel)) ggX9_simulate_X5_copyFrom
set_option maxRecDepth 20000 in
theorem ggX9_simulate_X5_changeLevel : GoodIn wsX9_simulate wsX5_changeLevel := goodIn_r _ [75, 22, 76, 77, 78, 79, 45, 80, 49, 50, 81, 82, 83, 18, 84, 85, 86, 87, 88, 89, 21, 23, 90, 29, 91, 92, 93, 94, 33, 95, 35, 36, 37, 96, 97, 98, 99, 24, 100, 101, 102, 103, 104, 105, 106, 67, 107, 70, 71, 158, 159, 160, 161, 162, 163, 164, 165, 166, 167, 168, 169, 170, 171, 172, 173, 181, 182, 183, 174, 175, 176, 177, 178, 179, 180] (by decide +kernel) (by decide +kernel)
set_option maxRecDepth 20000 in
theorem gX9_simulate_X5_changeLevel : GoodIn wsX9_simulate (wsV RX9 147 RX5 yX5_changeLevel wsX5_changeLevel) := goodIn_app (goodIn_of _ (by decide +kernel)) ggX9_simulate_X5_changeLevel
set_option maxRecDepth 20000 in
theorem ggX9_simulate_X5_tamperAt : GoodIn wsX9_simulate wsX5_tamperAt := goodIn_r _ [111, 23, 112, 22, 21, 113, 77, 78, 79, 45, 80, 49, 50, 96, 97, 98, 18, 99, 24, 114, 115, 116, 55, 117, 63, 62, 59, 60, 61, 158, 159, 160, 161, 162, 163, 168, 169, 170, 171, 172, 173, 174, 175, 176, 177, 178, 179, 180, 164, 165, 166, 167] (by decide +kernel) (by decide +kernel)
set_option maxRecDepth 20000 in
theorem gX9_simulate_X5_tamperAt : GoodIn wsX9_simulate (wsV RX9 169 RX5 yX5_tamperAt wsX5_tamperAt) := goodIn_app (goodIn_of _ (by decide +kernel)) ggX9_simulate_X5_tamperAt
set_option maxRecDepth 20000 in
theorem ggX9_simulate_X5_passMinutes : GoodIn wsX9_simulate wsX5_passMinutes := goodIn_r _ [121, 122, 123, 124, 18, 125, 22, 20, 77, 78, 79, 45, 80, 49, 50, 126, 127, 128, 129, 47, 130, 81, 82, 83, 84, 85, 86, 87, 88, 89, 21, 23, 90, 29, 91, 92, 93, 94, 33, 95, 35, 36, 37, 96, 97, 98, 99, 24, 100, 101, 102, 103, 104, 105, 106, 67, 107, 70, 71, 131, 132, 133, 134, 135, 136, 137, 138, 139, 140, 141, 142, 38, 39, 40, 41, 143, 144, 145, 146, 147, 69, 148, 149, 150, 151, 158, 159, 160, 161, 162, 163, 164, 165, 166, 167, 168, 169, 170, 171, 172, 173, 181, 182, 183, 174, 175, 176, 177, 178, 179, 180] (by decide +kernel) (by decide +kernel)
set_option maxRecDepth 20000 in
theorem gX9_simulate_X5_passMinutes : GoodIn wsX9_simulate (wsV RX9 141 RX5 yX5_passMinutes wsX5_passMinutes) := goodIn_app (goodIn_of _ (by decide +kernel)) ggX9_simulate_X5_passMinutes
set_option maxRecDepth 20000 in
theorem ggX9_simulate_X6_domain : GoodIn wsX9_simulate wsX6_domain := goodIn_r _ [80, 49, 50, 164, 165, 166, 167] (by decide +kernel) (by decide +kernel)
set_option maxRecDepth 20000 in
theorem gX9_simulate_X6_domain : GoodIn wsX9_simulate (wsV RX9 150 RX6 yX6_domain wsX6_domain) := goodIn_app (goodIn_of _ (by decide +kernel)) ggX9_simulate_X6_domain
theorem dX9_simulate_0 : decode cX9_simulate 0 = .ok (.iload_n 3, 1) := by decide +kernel
theorem dX9_simulate_1 : decode cX9_simulate 1 = .ok (.iconst 1, 1) := by decide +kernel
theorem dX9_simulate_2 : decode cX9_simulate 2 = .ok (.bipush 60, 2) := by decide +kernel
theorem dX9_simulate_4 : decode cX9_simulate 4 = .ok (.invokestatic 40, 3) := by decide +kernel
theorem dX9_simulate_7 : decode cX9_simulate 7 = .ok (.aload_n 0, 1) := by decide +kernel
theorem dX9_simulate_8 : decode cX9_simulate 8 = .ok (.getfield 23, 3) := by decide +kernel
theorem dX9_simulate_11 : decode cX9_simulate 11 = .ok (.aload_n 0, 1) := by decide +kernel
theorem dX9_simulate_12 : decode cX9_simulate 12 = .ok (.getfield 19, 3) := by decide +kernel
theorem dX9_simulate_15 : decode cX9_simulate 15 = .ok (.invokevirtual 66, 3) := by decide +kernel
theorem dX9_simulate_18 : decode cX9_simulate 18 = .ok (.lload_n 1, 1) := by decide +kernel
theorem dX9_simulate_19 : decode cX9_simulate 19 = .ok (.lstore 4, 2) := by decide +kernel
theorem dX9_simulate_21 : decode cX9_simulate 21 = .ok (.iconst 0, 1) := by decide +kernel
theorem dX9_simulate_22 : decode cX9_simulate 22 = .ok (.istore 6, 2) := by decide +kernel
theorem dX9_simulate_24 : decode cX9_simulate 24 = .ok (.iload 6, 2) := by decide +kernel
theorem dX9_simulate_26 : decode cX9_simulate 26 = .ok (.iload_n 3, 1) := by decide +kernel
theorem dX9_simulate_27 : decode cX9_simulate 27 = .ok (.if_icmp .ge 95, 3) := by decide +kernel
theorem dX9_simulate_30 : decode cX9_simulate 30 = .ok (.lload 4, 2) := by decide +kernel
theorem dX9_simulate_32 : decode cX9_simulate 32 = .ok (.ldc2_w 229, 3) := by decide +kernel
theorem dX9_simulate_35 : decode cX9_simulate 35 = .ok (.lmul, 1) := by decide +kernel
theorem dX9_simulate_36 : decode cX9_simulate 36 = .ok (.ldc2_w 231, 3) := by decide +kernel
theorem dX9_simulate_39 : decode cX9_simulate 39 = .ok (.ladd, 1) := by decide +kernel
theorem dX9_simulate_40 : decode cX9_simulate 40 = .ok (.lstore 4, 2) := by decide +kernel
theorem dX9_simulate_42 : decode cX9_simulate 42 = .ok (.lload 4, 2) := by decide +kernel
theorem dX9_simulate_44 : decode cX9_simulate 44 = .ok (.bipush 33, 2) := by decide +kernel
theorem dX9_simulate_46 : decode cX9_simulate 46 = .ok (.lushr, 1) := by decide +kernel
theorem dX9_simulate_47 : decode cX9_simulate 47 = .ok (.l2i, 1) := by decide +kernel
theorem dX9_simulate_48 : decode cX9_simulate 48 = .ok (.istore 7, 2) := by decide +kernel
theorem dX9_simulate_50 : decode cX9_simulate 50 = .ok (.iload 7, 2) := by decide +kernel
theorem dX9_simulate_52 : decode cX9_simulate 52 = .ok (.bipush 8, 2) := by decide +kernel
theorem dX9_simulate_54 : decode cX9_simulate 54 = .ok (.irem, 1) := by decide +kernel
theorem dX9_simulate_55 : decode cX9_simulate 55 = .ok (.ifCond .ne 21, 3) := by decide +kernel
theorem dX9_simulate_58 : decode cX9_simulate 58 = .ok (.aload_n 0, 1) := by decide +kernel
theorem dX9_simulate_59 : decode cX9_simulate 59 = .ok (.getfield 23, 3) := by decide +kernel
theorem dX9_simulate_62 : decode cX9_simulate 62 = .ok (.iload 7, 2) := by decide +kernel
theorem dX9_simulate_64 : decode cX9_simulate 64 = .ok (.bipush 8, 2) := by decide +kernel
theorem dX9_simulate_66 : decode cX9_simulate 66 = .ok (.idiv, 1) := by decide +kernel
theorem dX9_simulate_67 : decode cX9_simulate 67 = .ok (.bipush 10, 2) := by decide +kernel
theorem dX9_simulate_69 : decode cX9_simulate 69 = .ok (.irem, 1) := by decide +kernel
theorem dX9_simulate_70 : decode cX9_simulate 70 = .ok (.invokevirtual 147, 3) := by decide +kernel
theorem dX9_simulate_73 : decode cX9_simulate 73 = .ok (.goto 26, 3) := by decide +kernel
theorem dX9_simulate_76 : decode cX9_simulate 76 = .ok (.iload 7, 2) := by decide +kernel
