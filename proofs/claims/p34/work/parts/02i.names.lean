theorem dX9_simulate_78 : decode cX9_simulate 78 = .ok (.bipush 8, 2) := by decide +kernel
theorem dX9_simulate_80 : decode cX9_simulate 80 = .ok (.irem, 1) := by decide +kernel
theorem dX9_simulate_81 : decode cX9_simulate 81 = .ok (.iconst 1, 1) := by decide +kernel
theorem dX9_simulate_82 : decode cX9_simulate 82 = .ok (.if_icmp .ne 17, 3) := by decide +kernel
theorem dX9_simulate_85 : decode cX9_simulate 85 = .ok (.aload_n 0, 1) := by decide +kernel
theorem dX9_simulate_86 : decode cX9_simulate 86 = .ok (.getfield 23, 3) := by decide +kernel
theorem dX9_simulate_89 : decode cX9_simulate 89 = .ok (.iload 7, 2) := by decide +kernel
theorem dX9_simulate_91 : decode cX9_simulate 91 = .ok (.bipush 8, 2) := by decide +kernel
theorem dX9_simulate_93 : decode cX9_simulate 93 = .ok (.idiv, 1) := by decide +kernel
theorem dX9_simulate_94 : decode cX9_simulate 94 = .ok (.iconst 3, 1) := by decide +kernel
theorem dX9_simulate_95 : decode cX9_simulate 95 = .ok (.irem, 1) := by decide +kernel
theorem dX9_simulate_96 : decode cX9_simulate 96 = .ok (.invokevirtual 169, 3) := by decide +kernel
theorem dX9_simulate_99 : decode cX9_simulate 99 = .ok (.aload_n 0, 1) := by decide +kernel
theorem dX9_simulate_100 : decode cX9_simulate 100 = .ok (.getfield 23, 3) := by decide +kernel
theorem dX9_simulate_103 : decode cX9_simulate 103 = .ok (.iconst 1, 1) := by decide +kernel
theorem dX9_simulate_104 : decode cX9_simulate 104 = .ok (.iload 7, 2) := by decide +kernel
theorem dX9_simulate_106 : decode cX9_simulate 106 = .ok (.bipush 64, 2) := by decide +kernel
theorem dX9_simulate_108 : decode cX9_simulate 108 = .ok (.idiv, 1) := by decide +kernel
theorem dX9_simulate_109 : decode cX9_simulate 109 = .ok (.bipush 60, 2) := by decide +kernel
theorem dX9_simulate_111 : decode cX9_simulate 111 = .ok (.irem, 1) := by decide +kernel
theorem dX9_simulate_112 : decode cX9_simulate 112 = .ok (.iadd, 1) := by decide +kernel
theorem dX9_simulate_113 : decode cX9_simulate 113 = .ok (.invokevirtual 141, 3) := by decide +kernel
theorem dX9_simulate_116 : decode cX9_simulate 116 = .ok (.iinc 6 1, 3) := by decide +kernel
theorem dX9_simulate_119 : decode cX9_simulate 119 = .ok (.goto (-95), 3) := by decide +kernel
theorem dX9_simulate_122 : decode cX9_simulate 122 = .ok (.bipush 100, 2) := by decide +kernel
theorem dX9_simulate_124 : decode cX9_simulate 124 = .ok (.aload_n 0, 1) := by decide +kernel
theorem dX9_simulate_125 : decode cX9_simulate 125 = .ok (.getfield 23, 3) := by decide +kernel
theorem dX9_simulate_128 : decode cX9_simulate 128 = .ok (.getfield 84, 3) := by decide +kernel
theorem dX9_simulate_131 : decode cX9_simulate 131 = .ok (.getfield 233, 3) := by decide +kernel
theorem dX9_simulate_134 : decode cX9_simulate 134 = .ok (.imul, 1) := by decide +kernel
theorem dX9_simulate_135 : decode cX9_simulate 135 = .ok (.bipush 10, 2) := by decide +kernel
theorem dX9_simulate_137 : decode cX9_simulate 137 = .ok (.aload_n 0, 1) := by decide +kernel
theorem dX9_simulate_138 : decode cX9_simulate 138 = .ok (.getfield 23, 3) := by decide +kernel
theorem dX9_simulate_141 : decode cX9_simulate 141 = .ok (.getfield 84, 3) := by decide +kernel
theorem dX9_simulate_144 : decode cX9_simulate 144 = .ok (.invokevirtual 150, 3) := by decide +kernel
theorem dX9_simulate_147 : decode cX9_simulate 147 = .ok (.imul, 1) := by decide +kernel
theorem dX9_simulate_148 : decode cX9_simulate 148 = .ok (.iadd, 1) := by decide +kernel
theorem dX9_simulate_149 : decode cX9_simulate 149 = .ok (.aload_n 0, 1) := by decide +kernel
theorem dX9_simulate_150 : decode cX9_simulate 150 = .ok (.getfield 23, 3) := by decide +kernel
theorem dX9_simulate_153 : decode cX9_simulate 153 = .ok (.getfield 114, 3) := by decide +kernel
theorem dX9_simulate_156 : decode cX9_simulate 156 = .ok (.getfield 124, 3) := by decide +kernel
theorem dX9_simulate_159 : decode cX9_simulate 159 = .ok (.iadd, 1) := by decide +kernel
theorem dX9_simulate_160 : decode cX9_simulate 160 = .ok (.ireturn, 1) := by decide +kernel
set_option maxRecDepth 20000 in
theorem ggX9_save_X9_needIndex : GoodIn wsX9_save wsX9_needIndex := goodIn_ca (goodIn_r _ [9, 10, 11] (by decide +kernel) (by decide +kernel)) (goodIn_sub (fun _ h => List.mem_cons_of_mem _ (List.mem_append_right _ h)) (by decide +kernel))
set_option maxRecDepth 20000 in
theorem gX9_save_X9_needIndex : GoodIn wsX9_save (va_wsS RX9 107 yX9_needIndex wsX9_needIndex) := goodIn_app (goodIn_of _ (by decide +kernel)) ggX9_save_X9_needIndex
set_option maxRecDepth 20000 in
theorem ggX9_save_X5_copyFrom : GoodIn wsX9_save wsX5_copyFrom := goodIn_r _ [16, 17, 18, 19, 20, 21, 22, 23, 24, 25, 26, 27, 28, 29, 30, 31, 32, 33, 34, 35, 36, 37, 38, 39, 40, 41, 42, 43, 44, 45, 46, 47, 48, 49, 50, 51, 52, 53, 54, 55, 56, 57, 58, 59, 60, 61, 62, 63, 64, 65, 66, 67, 68, 76, 77, 78, 79, 80, 81, 82, 83, 84, 85, 86, 87, 88, 89, 90, 91, 92, 93, 94, 95, 96, 97, 98, 99, 100, 101] (by decide +kernel) (by decide +kernel)
set_option maxRecDepth 20000 in
theorem gX9_save_X5_copyFrom : GoodIn wsX9_save (wsV RX9 66 RX5 yX5_copyFrom wsX5_copyFrom) := goodIn_app (goodIn_of _ (by decide +kernel)) ggX9_save_X5_copyFrom
theorem dX9_save_0 : decode cX9_save 0 = .ok (.iload_n 1, 1) := by decide +kernel
theorem dX9_save_1 : decode cX9_save 1 = .ok (.iconst 2, 1) := by decide +kernel
theorem dX9_save_2 : decode cX9_save 2 = .ok (.invokestatic 107, 3) := by decide +kernel
theorem dX9_save_5 : decode cX9_save 5 = .ok (.aload_n 0, 1) := by decide +kernel
theorem dX9_save_6 : decode cX9_save 6 = .ok (.getfield 36, 3) := by decide +kernel
theorem dX9_save_9 : decode cX9_save 9 = .ok (.getfield 236, 3) := by decide +kernel
theorem dX9_save_12 : decode cX9_save 12 = .ok (.iload_n 1, 1) := by decide +kernel
theorem dX9_save_13 : decode cX9_save 13 = .ok (.aaload, 1) := by decide +kernel
theorem dX9_save_14 : decode cX9_save 14 = .ok (.aload_n 0, 1) := by decide +kernel
theorem dX9_save_15 : decode cX9_save 15 = .ok (.getfield 19, 3) := by decide +kernel
theorem dX9_save_18 : decode cX9_save 18 = .ok (.invokevirtual 66, 3) := by decide +kernel
theorem dX9_save_21 : decode cX9_save 21 = .ok (.aload_n 0, 1) := by decide +kernel
theorem dX9_save_22 : decode cX9_save 22 = .ok (.getfield 36, 3) := by decide +kernel
theorem dX9_save_25 : decode cX9_save 25 = .ok (.getfield 240, 3) := by decide +kernel
theorem dX9_save_28 : decode cX9_save 28 = .ok (.iload_n 1, 1) := by decide +kernel
theorem dX9_save_29 : decode cX9_save 29 = .ok (.iconst 1, 1) := by decide +kernel
theorem dX9_save_30 : decode cX9_save 30 = .ok (.bastore, 1) := by decide +kernel
theorem dX9_save_31 : decode cX9_save 31 = .ok (.aload_n 0, 1) := by decide +kernel
theorem dX9_save_32 : decode cX9_save 32 = .ok (.getfield 19, 3) := by decide +kernel
theorem dX9_save_35 : decode cX9_save 35 = .ok (.getfield 243, 3) := by decide +kernel
theorem dX9_save_38 : decode cX9_save 38 = .ok (.ireturn, 1) := by decide +kernel
set_option maxRecDepth 20000 in
theorem ggX9_restore_X9_needIndex : GoodIn wsX9_restore wsX9_needIndex := goodIn_ca (goodIn_r _ [12, 13, 14] (by decide +kernel) (by decide +kernel)) (goodIn_sub (fun _ h => List.mem_cons_of_mem _ (List.mem_append_right _ h)) (by decide +kernel))
set_option maxRecDepth 20000 in
theorem gX9_restore_X9_needIndex : GoodIn wsX9_restore (va_wsS RX9 107 yX9_needIndex wsX9_needIndex) := goodIn_app (goodIn_of _ (by decide +kernel)) ggX9_restore_X9_needIndex
set_option maxRecDepth 20000 in
theorem ggX9_restore_X5_copyFrom : GoodIn wsX9_restore wsX5_copyFrom := goodIn_r _ [19, 20, 21, 22, 23, 24, 25, 26, 27, 28, 29, 30, 31, 32, 33, 34, 35, 36, 37, 38, 39, 40, 41, 42, 43, 44, 45, 46, 47, 48, 49, 50, 51, 52, 53, 54, 55, 56, 57, 58, 59, 60, 61, 62, 63, 64, 65, 66, 67, 68, 69, 70, 71, 85, 86, 87, 88, 89, 90, 91, 92, 93, 94, 95, 96, 97, 98, 99, 100, 101, 102, 103, 104, 105, 106, 107, 108, 109, 110] (by decide +kernel) (by decide +kernel)
set_option maxRecDepth 20000 in
theorem gX9_restore_X5_copyFrom : GoodIn wsX9_restore (wsV RX9 66 RX5 yX5_copyFrom wsX5_copyFrom) := goodIn_app (goodIn_of _ (by decide +kernel)) ggX9_restore_X5_copyFrom
set_option maxRecDepth 20000 in
theorem ggX9_restore_X2_forget : GoodIn wsX9_restore wsX2_forget := goodIn_r _ [76, 77, 111, 112] (by decide +kernel) (by decide +kernel)
set_option maxRecDepth 20000 in
theorem gX9_restore_X2_forget : GoodIn wsX9_restore (wsV RX9 70 RX2 yX2_forget wsX2_forget) := goodIn_app (goodIn_of _ (by decide +kernel)) ggX9_restore_X2_forget
theorem dX9_restore_0 : decode cX9_restore 0 = .ok (.iload_n 1, 1) := by decide +kernel
theorem dX9_restore_1 : decode cX9_restore 1 = .ok (.iconst 2, 1) := by decide +kernel
theorem dX9_restore_2 : decode cX9_restore 2 = .ok (.invokestatic 107, 3) := by decide +kernel
theorem dX9_restore_5 : decode cX9_restore 5 = .ok (.aload_n 0, 1) := by decide +kernel
theorem dX9_restore_6 : decode cX9_restore 6 = .ok (.getfield 36, 3) := by decide +kernel
theorem dX9_restore_9 : decode cX9_restore 9 = .ok (.getfield 240, 3) := by decide +kernel
theorem dX9_restore_12 : decode cX9_restore 12 = .ok (.iload_n 1, 1) := by decide +kernel
theorem dX9_restore_13 : decode cX9_restore 13 = .ok (.baload, 1) := by decide +kernel
theorem dX9_restore_14 : decode cX9_restore 14 = .ok (.ifCond .ne 13, 3) := by decide +kernel
theorem dX9_restore_17 : decode cX9_restore 17 = .ok (.new 48, 3) := by decide +kernel
theorem dX9_restore_20 : decode cX9_restore 20 = .ok (.dup, 1) := by decide +kernel
theorem dX9_restore_21 : decode cX9_restore 21 = .ok (.ldc 246, 2) := by decide +kernel
theorem dX9_restore_23 : decode cX9_restore 23 = .ok (.invokespecial 52, 3) := by decide +kernel
theorem dX9_restore_26 : decode cX9_restore 26 = .ok (.athrow, 1) := by decide +kernel
theorem dX9_restore_27 : decode cX9_restore 27 = .ok (.aload_n 0, 1) := by decide +kernel
theorem dX9_restore_28 : decode cX9_restore 28 = .ok (.getfield 19, 3) := by decide +kernel
theorem dX9_restore_31 : decode cX9_restore 31 = .ok (.aload_n 0, 1) := by decide +kernel
theorem dX9_restore_32 : decode cX9_restore 32 = .ok (.getfield 36, 3) := by decide +kernel
theorem dX9_restore_35 : decode cX9_restore 35 = .ok (.getfield 236, 3) := by decide +kernel
theorem dX9_restore_38 : decode cX9_restore 38 = .ok (.iload_n 1, 1) := by decide +kernel
theorem dX9_restore_39 : decode cX9_restore 39 = .ok (.aaload, 1) := by decide +kernel
theorem dX9_restore_40 : decode cX9_restore 40 = .ok (.invokevirtual 66, 3) := by decide +kernel
theorem dX9_restore_43 : decode cX9_restore 43 = .ok (.aload_n 0, 1) := by decide +kernel
theorem dX9_restore_44 : decode cX9_restore 44 = .ok (.getfield 29, 3) := by decide +kernel
theorem dX9_restore_47 : decode cX9_restore 47 = .ok (.invokevirtual 70, 3) := by decide +kernel
theorem dX9_restore_50 : decode cX9_restore 50 = .ok (.aload_n 0, 1) := by decide +kernel
theorem dX9_restore_51 : decode cX9_restore 51 = .ok (.getfield 19, 3) := by decide +kernel
theorem dX9_restore_54 : decode cX9_restore 54 = .ok (.getfield 243, 3) := by decide +kernel
theorem dX9_restore_57 : decode cX9_restore 57 = .ok (.ireturn, 1) := by decide +kernel
theorem dX9_needRange_0 : decode cX9_needRange 0 = .ok (.iload_n 0, 1) := by decide +kernel
theorem dX9_needRange_1 : decode cX9_needRange 1 = .ok (.iload_n 1, 1) := by decide +kernel
theorem dX9_needRange_2 : decode cX9_needRange 2 = .ok (.if_icmp .lt 8, 3) := by decide +kernel
theorem dX9_needRange_5 : decode cX9_needRange 5 = .ok (.iload_n 0, 1) := by decide +kernel
theorem dX9_needRange_6 : decode cX9_needRange 6 = .ok (.iload_n 2, 1) := by decide +kernel
theorem dX9_needRange_7 : decode cX9_needRange 7 = .ok (.if_icmp .le 13, 3) := by decide +kernel
theorem dX9_needRange_10 : decode cX9_needRange 10 = .ok (.new 216, 3) := by decide +kernel
theorem dX9_needRange_13 : decode cX9_needRange 13 = .ok (.dup, 1) := by decide +kernel
theorem dX9_needRange_14 : decode cX9_needRange 14 = .ok (.ldc 248, 2) := by decide +kernel
theorem dX9_needRange_16 : decode cX9_needRange 16 = .ok (.invokespecial 220, 3) := by decide +kernel
theorem dX9_needRange_19 : decode cX9_needRange 19 = .ok (.athrow, 1) := by decide +kernel
theorem dX9_needRange_20 : decode cX9_needRange 20 = .ok (.return_, 1) := by decide +kernel
theorem dX9_needIndex_0 : decode cX9_needIndex 0 = .ok (.iload_n 0, 1) := by decide +kernel
theorem dX9_needIndex_1 : decode cX9_needIndex 1 = .ok (.ifCond .lt 8, 3) := by decide +kernel
theorem dX9_needIndex_4 : decode cX9_needIndex 4 = .ok (.iload_n 0, 1) := by decide +kernel
theorem dX9_needIndex_5 : decode cX9_needIndex 5 = .ok (.iload_n 1, 1) := by decide +kernel
theorem dX9_needIndex_6 : decode cX9_needIndex 6 = .ok (.if_icmp .lt 13, 3) := by decide +kernel
theorem dX9_needIndex_9 : decode cX9_needIndex 9 = .ok (.new 250, 3) := by decide +kernel
theorem dX9_needIndex_12 : decode cX9_needIndex 12 = .ok (.dup, 1) := by decide +kernel
theorem dX9_needIndex_13 : decode cX9_needIndex 13 = .ok (.ldc 252, 2) := by decide +kernel
theorem dX9_needIndex_15 : decode cX9_needIndex 15 = .ok (.invokespecial 254, 3) := by decide +kernel
theorem dX9_needIndex_18 : decode cX9_needIndex 18 = .ok (.athrow, 1) := by decide +kernel
theorem dX9_needIndex_19 : decode cX9_needIndex 19 = .ok (.return_, 1) := by decide +kernel
set_option maxRecDepth 20000 in
theorem ggX9_needMain_X5_isWritable : GoodIn wsX9_needMain wsX5_isWritable := goodIn_r _ [8, 9, 10, 11, 12, 13, 14, 15, 16, 22, 23, 24, 25, 26, 27, 28, 29, 30, 31] (by decide +kernel) (by decide +kernel)
set_option maxRecDepth 20000 in
theorem gX9_needMain_X5_isWritable : GoodIn wsX9_needMain (wsV RX9 255 RX5 yX5_isWritable wsX5_isWritable) := goodIn_app (goodIn_of _ (by decide +kernel)) ggX9_needMain_X5_isWritable
theorem dX9_needMain_0 : decode cX9_needMain 0 = .ok (.aload_n 0, 1) := by decide +kernel
theorem dX9_needMain_1 : decode cX9_needMain 1 = .ok (.getfield 19, 3) := by decide +kernel
theorem dX9_needMain_4 : decode cX9_needMain 4 = .ok (.invokevirtual 255, 3) := by decide +kernel
theorem dX9_needMain_7 : decode cX9_needMain 7 = .ok (.ifCond .ne 14, 3) := by decide +kernel
theorem dX9_needMain_10 : decode cX9_needMain 10 = .ok (.new 48, 3) := by decide +kernel
theorem dX9_needMain_13 : decode cX9_needMain 13 = .ok (.dup, 1) := by decide +kernel
theorem dX9_needMain_14 : decode cX9_needMain 14 = .ok (.ldc_w 259, 3) := by decide +kernel
theorem dX9_needMain_17 : decode cX9_needMain 17 = .ok (.invokespecial 52, 3) := by decide +kernel
theorem dX9_needMain_20 : decode cX9_needMain 20 = .ok (.athrow, 1) := by decide +kernel
theorem dX9_needMain_21 : decode cX9_needMain 21 = .ok (.return_, 1) := by decide +kernel
theorem dJ9_abs_0f7a4_0 : decode cJ9_abs_0f7a4 0 = .ok (.iload_n 0, 1) := by decide +kernel
theorem dJ9_abs_0f7a4_1 : decode cJ9_abs_0f7a4 1 = .ok (.ifCond .ge 8, 3) := by decide +kernel
theorem dJ9_abs_0f7a4_4 : decode cJ9_abs_0f7a4 4 = .ok (.iload_n 0, 1) := by decide +kernel
theorem dJ9_abs_0f7a4_5 : decode cJ9_abs_0f7a4 5 = .ok (.ineg, 1) := by decide +kernel
theorem dJ9_abs_0f7a4_6 : decode cJ9_abs_0f7a4 6 = .ok (.goto 4, 3) := by decide +kernel
theorem dJ9_abs_0f7a4_9 : decode cJ9_abs_0f7a4 9 = .ok (.iload_n 0, 1) := by decide +kernel
theorem dJ9_abs_0f7a4_10 : decode cJ9_abs_0f7a4 10 = .ok (.ireturn, 1) := by decide +kernel

