theorem dL_sound_430 : decode cL_sound 430 = .ok (.ifCond .le 7, 3) := by decide +kernel
theorem dL_sound_433 : decode cL_sound 433 = .ok (.iconst 1, 1) := by decide +kernel
theorem dL_sound_434 : decode cL_sound 434 = .ok (.goto 4, 3) := by decide +kernel
theorem dL_sound_437 : decode cL_sound 437 = .ok (.iconst 0, 1) := by decide +kernel
theorem dL_sound_438 : decode cL_sound 438 = .ok (.ireturn, 1) := by decide +kernel
set_option maxRecDepth 20000 in
theorem ggL_minutes_L_tryAhead : GoodIn wsL_minutes wsL_tryAhead := goodIn_ca (goodIn_r _ [6, 7, 8, 9, 10, 11, 12, 13, 14, 15, 16, 17, 18, 19, 20, 21, 22, 23, 24, 25, 26, 27, 28, 29, 30, 31, 32, 33, 34, 35, 36, 37, 38, 39, 40, 41, 42, 43, 44, 45, 46, 47, 48, 49, 50, 51, 52, 53, 54, 55, 56, 57, 58, 59, 60, 61, 62, 63, 64, 65, 66, 67, 68, 69, 70, 71, 72, 73, 74, 75, 76, 77, 78, 79, 80, 81, 82, 83, 84, 85, 86, 87, 88, 89, 90, 91, 92, 93, 94, 95, 96, 97, 98, 99, 100, 101, 102, 103, 104, 105, 106, 107, 108, 109, 110, 111, 112, 113, 114, 115, 116, 117, 118, 119, 120, 121, 122, 123, 124, 125, 126, 127, 128, 129, 130, 131, 132, 133, 134, 135, 136, 137, 138, 139, 140, 141, 142, 143, 144, 145, 146, 147, 148, 149, 150, 151, 152, 153, 154, 155, 156, 157, 158, 159, 160, 161, 162, 163, 164, 165, 166, 167, 168, 169, 170, 171, 172, 283, 284, 285, 286, 287, 288, 289, 290, 291, 292, 293, 294, 295, 296, 297, 298, 299, 300, 301, 302, 303, 304, 305, 306, 307, 308, 309, 310, 311, 312, 313] rfl (by decide +kernel)) (goodIn_sub (fun _ h => List.mem_cons_of_mem _ (List.mem_append_left _ (List.mem_append_right _ h))) (by decide +kernel))
set_option maxRecDepth 20000 in
theorem gL_minutes_L_tryAhead : GoodIn wsL_minutes (va_wsS RL 202 yL_tryAhead wsL_tryAhead) := goodIn_app (goodIn_of _ (by decide +kernel)) ggL_minutes_L_tryAhead
set_option maxRecDepth 20000 in
theorem ggL_minutes_L_tryDueAfter : GoodIn wsL_minutes wsL_tryDueAfter := goodIn_ca (goodIn_r _ [175, 176, 177, 178, 179, 180, 12, 181, 15, 16, 182, 183, 184, 185, 186, 187, 188, 189, 22, 23, 24, 25, 26, 27, 28, 29, 30, 31, 32, 33, 34, 35, 36, 37, 38, 39, 40, 41, 42, 43, 44, 45, 46, 47, 48, 49, 50, 51, 52, 53, 54, 55, 56, 57, 58, 59, 60, 61, 62, 63, 64, 65, 66, 67, 68, 69, 70, 71, 72, 73, 74, 75, 76, 77, 78, 190, 128, 129, 130, 191, 84, 85, 86, 87, 88, 89, 90, 91, 92, 93, 94, 95, 96, 97, 98, 99, 100, 101, 102, 103, 104, 105, 106, 107, 108, 109, 110, 111, 112, 113, 114, 115, 116, 117, 118, 119, 120, 121, 122, 123, 124, 125, 126, 127, 131, 132, 133, 134, 135, 136, 137, 138, 139, 140, 141, 142, 143, 192, 283, 284, 285, 286, 287, 288, 289, 290, 291, 292, 293, 294, 295, 296, 297, 298, 299, 300, 301, 302, 303, 304, 305, 306, 307, 308, 309, 310, 311, 312, 313] rfl (by decide +kernel)) (goodIn_sub (fun _ h => List.mem_cons_of_mem _ (List.mem_append_right _ h)) (by decide +kernel))
set_option maxRecDepth 20000 in
theorem gL_minutes_L_tryDueAfter : GoodIn wsL_minutes (va_wsS RL 205 yL_tryDueAfter wsL_tryDueAfter) := goodIn_app (goodIn_of _ (by decide +kernel)) ggL_minutes_L_tryDueAfter
set_option maxRecDepth 20000 in
theorem ggL_minutes_L_tryAbout : GoodIn wsL_minutes wsL_tryAbout := goodIn_ca (goodIn_r _ [195, 7, 8, 196, 197, 198, 12, 199, 16, 17, 18, 19, 20, 21, 144, 145, 146, 25, 147, 27, 28, 148, 149, 150, 151, 152, 29, 153, 154, 30, 105, 155, 104, 156, 157, 158, 159, 87, 88, 89, 52, 90, 56, 57, 160, 161, 162, 163, 36, 164, 165, 166, 167, 168, 169, 170, 171, 74, 172, 76, 77, 78, 283, 284, 285, 286, 287, 288, 289, 290, 291, 292, 293, 294, 295, 296, 297, 298, 299, 300, 301, 302, 303, 304, 305, 306, 307, 308, 309, 310, 311, 312, 313] rfl (by decide +kernel)) (goodIn_sub (fun _ h => List.mem_cons_of_mem _ (List.mem_append_left _ (List.mem_append_right _ h))) (by decide +kernel))
set_option maxRecDepth 20000 in
theorem gL_minutes_L_tryAbout : GoodIn wsL_minutes (va_wsS RL 143 yL_tryAbout wsL_tryAbout) := goodIn_app (goodIn_of _ (by decide +kernel)) ggL_minutes_L_tryAbout
set_option maxRecDepth 20000 in
theorem ggL_minutes_L_tryAlarm : GoodIn wsL_minutes wsL_tryAlarm := goodIn_ca (goodIn_ca (goodIn_r _ [202, 176, 7, 177, 8, 203, 204, 205, 12, 206, 16, 183, 185, 186, 187, 188, 189, 17, 18, 19, 20, 21, 207, 170, 171, 74, 172, 76, 77, 78, 283, 284, 285, 286, 287, 288, 289, 290, 291, 292, 293, 311, 312, 313] rfl (by decide +kernel)) (goodIn_sub (fun _ h => List.mem_cons_of_mem _ (List.mem_append_right _ h)) (by decide +kernel))) (goodIn_sub (fun _ h => List.mem_cons_of_mem _ (List.mem_append_left _ (List.mem_append_right _ h))) (by decide +kernel))
set_option maxRecDepth 20000 in
theorem gL_minutes_L_tryAlarm : GoodIn wsL_minutes (va_wsS RL 161 yL_tryAlarm wsL_tryAlarm) := goodIn_app (goodIn_of _ (by decide +kernel)) ggL_minutes_L_tryAlarm
set_option maxRecDepth 20000 in
theorem ggL_minutes_L_account : GoodIn wsL_minutes wsL_account := goodIn_ca (goodIn_r _ [210, 7, 211, 212, 213, 214, 12, 215, 16, 216, 217, 182, 218, 219, 17, 18, 19, 20, 21, 283, 284, 285, 286, 287, 288, 289, 290, 291, 292, 293, 301, 302, 303, 304, 294, 295, 296, 297, 298, 299, 300] rfl (by decide +kernel)) (goodIn_sub (fun _ h => List.mem_cons_of_mem _ (List.mem_append_left _ (List.mem_append_right _ h))) (by decide +kernel))
set_option maxRecDepth 20000 in
theorem gL_minutes_L_account : GoodIn wsL_minutes (va_wsS RL 158 yL_account wsL_account) := goodIn_app (goodIn_of _ (by decide +kernel)) ggL_minutes_L_account
set_option maxRecDepth 20000 in
theorem ggL_minutes_L_tryPass : GoodIn wsL_minutes wsL_tryPass := goodIn_ca (goodIn_r _ [222, 7, 8, 223, 224, 225, 12, 226, 227, 16, 182, 228, 17, 18, 19, 20, 21, 229, 230, 231, 232, 233, 234, 235, 236, 237, 238, 239, 240, 23, 24, 25, 26, 27, 28, 29, 30, 31, 32, 33, 34, 35, 36, 37, 38, 39, 40, 41, 42, 43, 44, 45, 46, 47, 48, 49, 50, 51, 52, 53, 54, 55, 56, 57, 58, 59, 60, 61, 62, 63, 64, 65, 66, 67, 68, 69, 70, 71, 72, 73, 74, 75, 76, 77, 78, 79, 80, 81, 82, 83, 84, 85, 86, 87, 88, 89, 90, 91, 92, 93, 94, 95, 96, 97, 98, 99, 100, 101, 102, 103, 104, 105, 106, 107, 108, 109, 110, 111, 112, 113, 114, 115, 116, 117, 118, 119, 120, 121, 122, 123, 124, 125, 126, 127, 128, 129, 130, 131, 132, 133, 134, 135, 136, 137, 138, 139, 140, 141, 142, 143, 283, 284, 285, 286, 287, 288, 289, 290, 291, 292, 293, 294, 295, 296, 297, 298, 299, 300, 314, 315, 301, 302, 303, 304, 305, 306, 307, 308, 309, 310, 311, 312, 313] rfl (by decide +kernel)) (goodIn_sub (fun _ h => List.mem_cons_of_mem _ (List.mem_append_left _ (List.mem_append_right _ h))) (by decide +kernel))
set_option maxRecDepth 20000 in
theorem gL_minutes_L_tryPass : GoodIn wsL_minutes (va_wsS RL 168 yL_tryPass wsL_tryPass) := goodIn_app (goodIn_of _ (by decide +kernel)) ggL_minutes_L_tryPass
set_option maxRecDepth 20000 in
theorem ggL_minutes_L_size : GoodIn wsL_minutes wsL_size := goodIn_r _ [243] rfl (by decide +kernel)
set_option maxRecDepth 20000 in
theorem gL_minutes_L_size : GoodIn wsL_minutes (va_wsS RL 131 yL_size wsL_size) := goodIn_app (goodIn_of _ (by decide +kernel)) ggL_minutes_L_size
set_option maxRecDepth 20000 in
theorem ggL_minutes_L_sound : GoodIn wsL_minutes wsL_sound := goodIn_ca (goodIn_ca (goodIn_r _ [246, 247, 1, 193, 194, 5, 195, 7, 8, 196, 197, 198, 12, 199, 16, 17, 18, 19, 20, 21, 144, 145, 146, 25, 147, 27, 28, 148, 149, 150, 151, 152, 29, 153, 154, 30, 105, 155, 104, 156, 157, 158, 159, 87, 88, 89, 52, 90, 56, 57, 160, 161, 162, 163, 36, 164, 165, 166, 167, 168, 169, 170, 171, 74, 172, 76, 77, 78, 208, 209, 210, 211, 212, 213, 214, 215, 216, 217, 182, 218, 219, 200, 201, 202, 176, 177, 203, 204, 205, 206, 183, 185, 186, 187, 188, 189, 207, 248, 249, 250, 251, 252, 241, 242, 243, 253, 254, 255, 256, 257, 258, 259, 260, 261, 95, 262, 263, 264, 265, 266, 267, 268, 269, 270, 271, 272, 273, 274, 275, 276, 277, 278, 279, 280, 281, 62, 282, 66, 67, 68, 283, 284, 285, 286, 287, 288, 289, 290, 291, 292, 293, 294, 295, 296, 297, 298, 299, 300, 301, 302, 303, 304, 305, 306, 307, 308, 309, 310, 311, 312, 313] rfl (by decide +kernel)) (goodIn_sub (fun _ h => List.mem_cons_of_mem _ (List.mem_append_left _ (List.mem_append_right _ h))) (by decide +kernel))) (goodIn_sub (fun _ h => List.mem_cons_of_mem _ (List.mem_append_right _ h)) (by decide +kernel))
set_option maxRecDepth 20000 in
theorem gL_minutes_L_sound : GoodIn wsL_minutes (va_wsS RL 233 yL_sound wsL_sound) := goodIn_app (goodIn_of _ (by decide +kernel)) ggL_minutes_L_sound
theorem dL_minutes_0 : decode cL_minutes 0 = .ok (.iconst 1, 1) := by decide +kernel
theorem dL_minutes_1 : decode cL_minutes 1 = .ok (.iload_n 1, 1) := by decide +kernel
theorem dL_minutes_2 : decode cL_minutes 2 = .ok (.bipush 40, 2) := by decide +kernel
theorem dL_minutes_4 : decode cL_minutes 4 = .ok (.irem, 1) := by decide +kernel
theorem dL_minutes_5 : decode cL_minutes 5 = .ok (.iadd, 1) := by decide +kernel
theorem dL_minutes_6 : decode cL_minutes 6 = .ok (.istore_n 2, 1) := by decide +kernel
theorem dL_minutes_7 : decode cL_minutes 7 = .ok (.aload_n 0, 1) := by decide +kernel
theorem dL_minutes_8 : decode cL_minutes 8 = .ok (.iload_n 2, 1) := by decide +kernel
theorem dL_minutes_9 : decode cL_minutes 9 = .ok (.iconst 0, 1) := by decide +kernel
theorem dL_minutes_10 : decode cL_minutes 10 = .ok (.invokestatic 202, 3) := by decide +kernel
theorem dL_minutes_13 : decode cL_minutes 13 = .ok (.istore_n 3, 1) := by decide +kernel
theorem dL_minutes_14 : decode cL_minutes 14 = .ok (.aload_n 0, 1) := by decide +kernel
theorem dL_minutes_15 : decode cL_minutes 15 = .ok (.iload_n 2, 1) := by decide +kernel
theorem dL_minutes_16 : decode cL_minutes 16 = .ok (.iconst 1, 1) := by decide +kernel
theorem dL_minutes_17 : decode cL_minutes 17 = .ok (.invokestatic 202, 3) := by decide +kernel
theorem dL_minutes_20 : decode cL_minutes 20 = .ok (.istore 4, 2) := by decide +kernel
theorem dL_minutes_22 : decode cL_minutes 22 = .ok (.aload_n 0, 1) := by decide +kernel
theorem dL_minutes_23 : decode cL_minutes 23 = .ok (.iload_n 2, 1) := by decide +kernel
theorem dL_minutes_24 : decode cL_minutes 24 = .ok (.iconst 2, 1) := by decide +kernel
theorem dL_minutes_25 : decode cL_minutes 25 = .ok (.invokestatic 202, 3) := by decide +kernel
theorem dL_minutes_28 : decode cL_minutes 28 = .ok (.istore 5, 2) := by decide +kernel
theorem dL_minutes_30 : decode cL_minutes 30 = .ok (.aload_n 0, 1) := by decide +kernel
theorem dL_minutes_31 : decode cL_minutes 31 = .ok (.iload_n 2, 1) := by decide +kernel
theorem dL_minutes_32 : decode cL_minutes 32 = .ok (.iconst 3, 1) := by decide +kernel
theorem dL_minutes_33 : decode cL_minutes 33 = .ok (.invokestatic 202, 3) := by decide +kernel
theorem dL_minutes_36 : decode cL_minutes 36 = .ok (.istore 6, 2) := by decide +kernel
theorem dL_minutes_38 : decode cL_minutes 38 = .ok (.aload_n 0, 1) := by decide +kernel
theorem dL_minutes_39 : decode cL_minutes 39 = .ok (.iload_n 2, 1) := by decide +kernel
theorem dL_minutes_40 : decode cL_minutes 40 = .ok (.iconst 4, 1) := by decide +kernel
theorem dL_minutes_41 : decode cL_minutes 41 = .ok (.invokestatic 202, 3) := by decide +kernel
theorem dL_minutes_44 : decode cL_minutes 44 = .ok (.istore 7, 2) := by decide +kernel
theorem dL_minutes_46 : decode cL_minutes 46 = .ok (.aload_n 0, 1) := by decide +kernel
theorem dL_minutes_47 : decode cL_minutes 47 = .ok (.iload_n 2, 1) := by decide +kernel
theorem dL_minutes_48 : decode cL_minutes 48 = .ok (.iconst 5, 1) := by decide +kernel
theorem dL_minutes_49 : decode cL_minutes 49 = .ok (.invokestatic 202, 3) := by decide +kernel
theorem dL_minutes_52 : decode cL_minutes 52 = .ok (.istore 8, 2) := by decide +kernel
theorem dL_minutes_54 : decode cL_minutes 54 = .ok (.iload_n 1, 1) := by decide +kernel
theorem dL_minutes_55 : decode cL_minutes 55 = .ok (.bipush 64, 2) := by decide +kernel
theorem dL_minutes_57 : decode cL_minutes 57 = .ok (.idiv, 1) := by decide +kernel
theorem dL_minutes_58 : decode cL_minutes 58 = .ok (.iconst 4, 1) := by decide +kernel
theorem dL_minutes_59 : decode cL_minutes 59 = .ok (.irem, 1) := by decide +kernel
theorem dL_minutes_60 : decode cL_minutes 60 = .ok (.istore 9, 2) := by decide +kernel
theorem dL_minutes_62 : decode cL_minutes 62 = .ok (.aload_n 0, 1) := by decide +kernel
theorem dL_minutes_63 : decode cL_minutes 63 = .ok (.iload 9, 2) := by decide +kernel
theorem dL_minutes_65 : decode cL_minutes 65 = .ok (.invokestatic 205, 3) := by decide +kernel
theorem dL_minutes_68 : decode cL_minutes 68 = .ok (.istore 10, 2) := by decide +kernel
theorem dL_minutes_70 : decode cL_minutes 70 = .ok (.aload_n 0, 1) := by decide +kernel
theorem dL_minutes_71 : decode cL_minutes 71 = .ok (.iconst 0, 1) := by decide +kernel
theorem dL_minutes_72 : decode cL_minutes 72 = .ok (.iconst 0, 1) := by decide +kernel
theorem dL_minutes_73 : decode cL_minutes 73 = .ok (.invokestatic 202, 3) := by decide +kernel
theorem dL_minutes_76 : decode cL_minutes 76 = .ok (.aload_n 0, 1) := by decide +kernel
theorem dL_minutes_77 : decode cL_minutes 77 = .ok (.iconst 1, 1) := by decide +kernel
theorem dL_minutes_78 : decode cL_minutes 78 = .ok (.invokestatic 143, 3) := by decide +kernel
theorem dL_minutes_81 : decode cL_minutes 81 = .ok (.if_icmp .ne 22, 3) := by decide +kernel
theorem dL_minutes_84 : decode cL_minutes 84 = .ok (.aload_n 0, 1) := by decide +kernel
theorem dL_minutes_85 : decode cL_minutes 85 = .ok (.iconst 0, 1) := by decide +kernel
theorem dL_minutes_86 : decode cL_minutes 86 = .ok (.iconst 5, 1) := by decide +kernel
theorem dL_minutes_87 : decode cL_minutes 87 = .ok (.invokestatic 202, 3) := by decide +kernel
theorem dL_minutes_90 : decode cL_minutes 90 = .ok (.aload_n 0, 1) := by decide +kernel
theorem dL_minutes_91 : decode cL_minutes 91 = .ok (.bipush 12, 2) := by decide +kernel
theorem dL_minutes_93 : decode cL_minutes 93 = .ok (.invokestatic 143, 3) := by decide +kernel
theorem dL_minutes_96 : decode cL_minutes 96 = .ok (.if_icmp .ne 7, 3) := by decide +kernel
theorem dL_minutes_99 : decode cL_minutes 99 = .ok (.iconst 1, 1) := by decide +kernel
theorem dL_minutes_100 : decode cL_minutes 100 = .ok (.goto 4, 3) := by decide +kernel
theorem dL_minutes_103 : decode cL_minutes 103 = .ok (.iconst 0, 1) := by decide +kernel
theorem dL_minutes_104 : decode cL_minutes 104 = .ok (.istore 11, 2) := by decide +kernel
theorem dL_minutes_106 : decode cL_minutes 106 = .ok (.iconst 1, 1) := by decide +kernel
theorem dL_minutes_107 : decode cL_minutes 107 = .ok (.istore 12, 2) := by decide +kernel
theorem dL_minutes_109 : decode cL_minutes 109 = .ok (.iload 12, 2) := by decide +kernel
theorem dL_minutes_111 : decode cL_minutes 111 = .ok (.iload_n 2, 1) := by decide +kernel
theorem dL_minutes_112 : decode cL_minutes 112 = .ok (.if_icmp .gt 532, 3) := by decide +kernel
theorem dL_minutes_115 : decode cL_minutes 115 = .ok (.iload 11, 2) := by decide +kernel
theorem dL_minutes_117 : decode cL_minutes 117 = .ok (.ifCond .eq 527, 3) := by decide +kernel
theorem dL_minutes_120 : decode cL_minutes 120 = .ok (.aload_n 0, 1) := by decide +kernel
theorem dL_minutes_121 : decode cL_minutes 121 = .ok (.iconst 1, 1) := by decide +kernel
theorem dL_minutes_122 : decode cL_minutes 122 = .ok (.invokestatic 143, 3) := by decide +kernel
theorem dL_minutes_125 : decode cL_minutes 125 = .ok (.istore 13, 2) := by decide +kernel
theorem dL_minutes_127 : decode cL_minutes 127 = .ok (.aload_n 0, 1) := by decide +kernel
theorem dL_minutes_128 : decode cL_minutes 128 = .ok (.iconst 2, 1) := by decide +kernel
theorem dL_minutes_129 : decode cL_minutes 129 = .ok (.invokestatic 143, 3) := by decide +kernel
theorem dL_minutes_132 : decode cL_minutes 132 = .ok (.istore 14, 2) := by decide +kernel
theorem dL_minutes_134 : decode cL_minutes 134 = .ok (.aload_n 0, 1) := by decide +kernel
theorem dL_minutes_135 : decode cL_minutes 135 = .ok (.bipush 8, 2) := by decide +kernel
theorem dL_minutes_137 : decode cL_minutes 137 = .ok (.invokestatic 143, 3) := by decide +kernel
theorem dL_minutes_140 : decode cL_minutes 140 = .ok (.istore 15, 2) := by decide +kernel
theorem dL_minutes_142 : decode cL_minutes 142 = .ok (.aload_n 0, 1) := by decide +kernel
theorem dL_minutes_143 : decode cL_minutes 143 = .ok (.bipush 9, 2) := by decide +kernel
theorem dL_minutes_145 : decode cL_minutes 145 = .ok (.invokestatic 143, 3) := by decide +kernel
theorem dL_minutes_148 : decode cL_minutes 148 = .ok (.istore 16, 2) := by decide +kernel
theorem dL_minutes_150 : decode cL_minutes 150 = .ok (.aload_n 0, 1) := by decide +kernel
theorem dL_minutes_151 : decode cL_minutes 151 = .ok (.bipush 14, 2) := by decide +kernel
theorem dL_minutes_153 : decode cL_minutes 153 = .ok (.invokestatic 143, 3) := by decide +kernel
theorem dL_minutes_156 : decode cL_minutes 156 = .ok (.istore 17, 2) := by decide +kernel
theorem dL_minutes_158 : decode cL_minutes 158 = .ok (.aload_n 0, 1) := by decide +kernel
theorem dL_minutes_159 : decode cL_minutes 159 = .ok (.iload 9, 2) := by decide +kernel
theorem dL_minutes_161 : decode cL_minutes 161 = .ok (.iconst 1, 1) := by decide +kernel
theorem dL_minutes_162 : decode cL_minutes 162 = .ok (.invokestatic 161, 3) := by decide +kernel
theorem dL_minutes_165 : decode cL_minutes 165 = .ok (.istore 18, 2) := by decide +kernel
theorem dL_minutes_167 : decode cL_minutes 167 = .ok (.aload_n 0, 1) := by decide +kernel
theorem dL_minutes_168 : decode cL_minutes 168 = .ok (.iload 9, 2) := by decide +kernel
theorem dL_minutes_170 : decode cL_minutes 170 = .ok (.iconst 2, 1) := by decide +kernel
theorem dL_minutes_171 : decode cL_minutes 171 = .ok (.invokestatic 161, 3) := by decide +kernel
theorem dL_minutes_174 : decode cL_minutes 174 = .ok (.istore 19, 2) := by decide +kernel
theorem dL_minutes_176 : decode cL_minutes 176 = .ok (.aload_n 0, 1) := by decide +kernel
theorem dL_minutes_177 : decode cL_minutes 177 = .ok (.iload 9, 2) := by decide +kernel
theorem dL_minutes_179 : decode cL_minutes 179 = .ok (.iconst 0, 1) := by decide +kernel
theorem dL_minutes_180 : decode cL_minutes 180 = .ok (.invokestatic 161, 3) := by decide +kernel
theorem dL_minutes_183 : decode cL_minutes 183 = .ok (.istore 20, 2) := by decide +kernel
theorem dL_minutes_185 : decode cL_minutes 185 = .ok (.aload_n 0, 1) := by decide +kernel
theorem dL_minutes_186 : decode cL_minutes 186 = .ok (.iconst 4, 1) := by decide +kernel
theorem dL_minutes_187 : decode cL_minutes 187 = .ok (.invokestatic 158, 3) := by decide +kernel
theorem dL_minutes_190 : decode cL_minutes 190 = .ok (.lstore 21, 2) := by decide +kernel
theorem dL_minutes_192 : decode cL_minutes 192 = .ok (.aload_n 0, 1) := by decide +kernel
theorem dL_minutes_193 : decode cL_minutes 193 = .ok (.iconst 5, 1) := by decide +kernel
theorem dL_minutes_194 : decode cL_minutes 194 = .ok (.invokestatic 158, 3) := by decide +kernel
theorem dL_minutes_197 : decode cL_minutes 197 = .ok (.lstore 23, 2) := by decide +kernel
theorem dL_minutes_199 : decode cL_minutes 199 = .ok (.bipush 60, 2) := by decide +kernel
theorem dL_minutes_201 : decode cL_minutes 201 = .ok (.aload_n 0, 1) := by decide +kernel
theorem dL_minutes_202 : decode cL_minutes 202 = .ok (.iconst 3, 1) := by decide +kernel
theorem dL_minutes_203 : decode cL_minutes 203 = .ok (.invokestatic 143, 3) := by decide +kernel
theorem dL_minutes_206 : decode cL_minutes 206 = .ok (.aload_n 0, 1) := by decide +kernel
theorem dL_minutes_207 : decode cL_minutes 207 = .ok (.iconst 4, 1) := by decide +kernel
theorem dL_minutes_208 : decode cL_minutes 208 = .ok (.invokestatic 143, 3) := by decide +kernel
theorem dL_minutes_211 : decode cL_minutes 211 = .ok (.isub, 1) := by decide +kernel
theorem dL_minutes_212 : decode cL_minutes 212 = .ok (.imul, 1) := by decide +kernel
theorem dL_minutes_213 : decode cL_minutes 213 = .ok (.istore 25, 2) := by decide +kernel
theorem dL_minutes_215 : decode cL_minutes 215 = .ok (.aload_n 0, 1) := by decide +kernel
theorem dL_minutes_216 : decode cL_minutes 216 = .ok (.iconst 1, 1) := by decide +kernel
theorem dL_minutes_217 : decode cL_minutes 217 = .ok (.invokestatic 168, 3) := by decide +kernel
theorem dL_minutes_220 : decode cL_minutes 220 = .ok (.istore 26, 2) := by decide +kernel
theorem dL_minutes_222 : decode cL_minutes 222 = .ok (.iload 16, 2) := by decide +kernel
theorem dL_minutes_224 : decode cL_minutes 224 = .ok (.iconst 1, 1) := by decide +kernel
theorem dL_minutes_225 : decode cL_minutes 225 = .ok (.if_icmp .eq 9, 3) := by decide +kernel
theorem dL_minutes_228 : decode cL_minutes 228 = .ok (.iload 16, 2) := by decide +kernel
theorem dL_minutes_230 : decode cL_minutes 230 = .ok (.iconst 2, 1) := by decide +kernel
theorem dL_minutes_231 : decode cL_minutes 231 = .ok (.if_icmp .ne 13, 3) := by decide +kernel
theorem dL_minutes_234 : decode cL_minutes 234 = .ok (.iload 15, 2) := by decide +kernel
theorem dL_minutes_236 : decode cL_minutes 236 = .ok (.iconst 1, 1) := by decide +kernel
theorem dL_minutes_237 : decode cL_minutes 237 = .ok (.if_icmp .ne 7, 3) := by decide +kernel
theorem dL_minutes_240 : decode cL_minutes 240 = .ok (.iconst 1, 1) := by decide +kernel
theorem dL_minutes_241 : decode cL_minutes 241 = .ok (.goto 4, 3) := by decide +kernel
theorem dL_minutes_244 : decode cL_minutes 244 = .ok (.iconst 0, 1) := by decide +kernel
theorem dL_minutes_245 : decode cL_minutes 245 = .ok (.istore 27, 2) := by decide +kernel
theorem dL_minutes_247 : decode cL_minutes 247 = .ok (.iload 16, 2) := by decide +kernel
theorem dL_minutes_249 : decode cL_minutes 249 = .ok (.iconst 3, 1) := by decide +kernel
theorem dL_minutes_250 : decode cL_minutes 250 = .ok (.if_icmp .eq 8, 3) := by decide +kernel
theorem dL_minutes_253 : decode cL_minutes 253 = .ok (.iload 27, 2) := by decide +kernel
theorem dL_minutes_255 : decode cL_minutes 255 = .ok (.ifCond .eq 7, 3) := by decide +kernel
theorem dL_minutes_258 : decode cL_minutes 258 = .ok (.iconst 1, 1) := by decide +kernel
theorem dL_minutes_259 : decode cL_minutes 259 = .ok (.goto 4, 3) := by decide +kernel
theorem dL_minutes_262 : decode cL_minutes 262 = .ok (.iconst 0, 1) := by decide +kernel
theorem dL_minutes_263 : decode cL_minutes 263 = .ok (.istore 28, 2) := by decide +kernel
theorem dL_minutes_265 : decode cL_minutes 265 = .ok (.iconst 0, 1) := by decide +kernel
theorem dL_minutes_266 : decode cL_minutes 266 = .ok (.istore 29, 2) := by decide +kernel
theorem dL_minutes_268 : decode cL_minutes 268 = .ok (.iload 13, 2) := by decide +kernel
theorem dL_minutes_270 : decode cL_minutes 270 = .ok (.bipush 60, 2) := by decide +kernel
theorem dL_minutes_272 : decode cL_minutes 272 = .ok (.idiv, 1) := by decide +kernel
theorem dL_minutes_273 : decode cL_minutes 273 = .ok (.iconst 1, 1) := by decide +kernel
theorem dL_minutes_274 : decode cL_minutes 274 = .ok (.iadd, 1) := by decide +kernel
theorem dL_minutes_275 : decode cL_minutes 275 = .ok (.istore 30, 2) := by decide +kernel
theorem dL_minutes_277 : decode cL_minutes 277 = .ok (.iload 30, 2) := by decide +kernel
theorem dL_minutes_279 : decode cL_minutes 279 = .ok (.iload 26, 2) := by decide +kernel
theorem dL_minutes_281 : decode cL_minutes 281 = .ok (.bipush 60, 2) := by decide +kernel
theorem dL_minutes_283 : decode cL_minutes 283 = .ok (.idiv, 1) := by decide +kernel
theorem dL_minutes_284 : decode cL_minutes 284 = .ok (.if_icmp .gt 37, 3) := by decide +kernel
theorem dL_minutes_287 : decode cL_minutes 287 = .ok (.iload 29, 2) := by decide +kernel
theorem dL_minutes_289 : decode cL_minutes 289 = .ok (.iload 20, 2) := by decide +kernel
theorem dL_minutes_291 : decode cL_minutes 291 = .ok (.ldc 138, 2) := by decide +kernel
theorem dL_minutes_293 : decode cL_minutes 293 = .ok (.if_icmp .eq 18, 3) := by decide +kernel
theorem dL_minutes_296 : decode cL_minutes 296 = .ok (.iload 30, 2) := by decide +kernel
theorem dL_minutes_298 : decode cL_minutes 298 = .ok (.sipush 1440, 3) := by decide +kernel
theorem dL_minutes_301 : decode cL_minutes 301 = .ok (.irem, 1) := by decide +kernel
theorem dL_minutes_302 : decode cL_minutes 302 = .ok (.iload 20, 2) := by decide +kernel
theorem dL_minutes_304 : decode cL_minutes 304 = .ok (.if_icmp .ne 7, 3) := by decide +kernel
theorem dL_minutes_307 : decode cL_minutes 307 = .ok (.iconst 1, 1) := by decide +kernel
theorem dL_minutes_308 : decode cL_minutes 308 = .ok (.goto 4, 3) := by decide +kernel
theorem dL_minutes_311 : decode cL_minutes 311 = .ok (.iconst 0, 1) := by decide +kernel
theorem dL_minutes_312 : decode cL_minutes 312 = .ok (.ior, 1) := by decide +kernel
theorem dL_minutes_313 : decode cL_minutes 313 = .ok (.istore 29, 2) := by decide +kernel
theorem dL_minutes_315 : decode cL_minutes 315 = .ok (.iinc 30 1, 3) := by decide +kernel
theorem dL_minutes_318 : decode cL_minutes 318 = .ok (.goto (-41), 3) := by decide +kernel
theorem dL_minutes_321 : decode cL_minutes 321 = .ok (.iload 29, 2) := by decide +kernel
theorem dL_minutes_323 : decode cL_minutes 323 = .ok (.iload 28, 2) := by decide +kernel
theorem dL_minutes_325 : decode cL_minutes 325 = .ok (.ifCond .ne 7, 3) := by decide +kernel
theorem dL_minutes_328 : decode cL_minutes 328 = .ok (.iconst 1, 1) := by decide +kernel
theorem dL_minutes_329 : decode cL_minutes 329 = .ok (.goto 4, 3) := by decide +kernel
theorem dL_minutes_332 : decode cL_minutes 332 = .ok (.iconst 0, 1) := by decide +kernel
theorem dL_minutes_333 : decode cL_minutes 333 = .ok (.iand, 1) := by decide +kernel
theorem dL_minutes_334 : decode cL_minutes 334 = .ok (.istore 29, 2) := by decide +kernel
theorem dL_minutes_336 : decode cL_minutes 336 = .ok (.iload 26, 2) := by decide +kernel
theorem dL_minutes_338 : decode cL_minutes 338 = .ok (.aload_n 0, 1) := by decide +kernel
theorem dL_minutes_339 : decode cL_minutes 339 = .ok (.iconst 1, 1) := by decide +kernel
theorem dL_minutes_340 : decode cL_minutes 340 = .ok (.invokestatic 143, 3) := by decide +kernel
theorem dL_minutes_343 : decode cL_minutes 343 = .ok (.if_icmp .ne 292, 3) := by decide +kernel
theorem dL_minutes_346 : decode cL_minutes 346 = .ok (.aload_n 0, 1) := by decide +kernel
theorem dL_minutes_347 : decode cL_minutes 347 = .ok (.bipush 8, 2) := by decide +kernel
theorem dL_minutes_349 : decode cL_minutes 349 = .ok (.invokestatic 143, 3) := by decide +kernel
theorem dL_minutes_352 : decode cL_minutes 352 = .ok (.iload 15, 2) := by decide +kernel
theorem dL_minutes_354 : decode cL_minutes 354 = .ok (.iload 16, 2) := by decide +kernel
theorem dL_minutes_356 : decode cL_minutes 356 = .ok (.iconst 1, 1) := by decide +kernel
theorem dL_minutes_357 : decode cL_minutes 357 = .ok (.if_icmp .eq 9, 3) := by decide +kernel
theorem dL_minutes_360 : decode cL_minutes 360 = .ok (.iload 16, 2) := by decide +kernel
theorem dL_minutes_362 : decode cL_minutes 362 = .ok (.iconst 2, 1) := by decide +kernel
theorem dL_minutes_363 : decode cL_minutes 363 = .ok (.if_icmp .ne 7, 3) := by decide +kernel
theorem dL_minutes_366 : decode cL_minutes 366 = .ok (.iconst 1, 1) := by decide +kernel
theorem dL_minutes_367 : decode cL_minutes 367 = .ok (.goto 4, 3) := by decide +kernel
theorem dL_minutes_370 : decode cL_minutes 370 = .ok (.iconst 0, 1) := by decide +kernel
theorem dL_minutes_371 : decode cL_minutes 371 = .ok (.isub, 1) := by decide +kernel
theorem dL_minutes_372 : decode cL_minutes 372 = .ok (.if_icmp .ne 263, 3) := by decide +kernel
theorem dL_minutes_375 : decode cL_minutes 375 = .ok (.aload_n 0, 1) := by decide +kernel
theorem dL_minutes_376 : decode cL_minutes 376 = .ok (.bipush 14, 2) := by decide +kernel
theorem dL_minutes_378 : decode cL_minutes 378 = .ok (.invokestatic 143, 3) := by decide +kernel
theorem dL_minutes_381 : decode cL_minutes 381 = .ok (.iload 17, 2) := by decide +kernel
theorem dL_minutes_383 : decode cL_minutes 383 = .ok (.iload 27, 2) := by decide +kernel
theorem dL_minutes_385 : decode cL_minutes 385 = .ok (.ifCond .eq 7, 3) := by decide +kernel
theorem dL_minutes_388 : decode cL_minutes 388 = .ok (.iconst 1, 1) := by decide +kernel
theorem dL_minutes_389 : decode cL_minutes 389 = .ok (.goto 4, 3) := by decide +kernel
theorem dL_minutes_392 : decode cL_minutes 392 = .ok (.iconst 0, 1) := by decide +kernel
theorem dL_minutes_393 : decode cL_minutes 393 = .ok (.iadd, 1) := by decide +kernel
theorem dL_minutes_394 : decode cL_minutes 394 = .ok (.if_icmp .ne 241, 3) := by decide +kernel
theorem dL_minutes_397 : decode cL_minutes 397 = .ok (.aload_n 0, 1) := by decide +kernel
theorem dL_minutes_398 : decode cL_minutes 398 = .ok (.bipush 9, 2) := by decide +kernel
theorem dL_minutes_400 : decode cL_minutes 400 = .ok (.invokestatic 143, 3) := by decide +kernel
theorem dL_minutes_403 : decode cL_minutes 403 = .ok (.iload 28, 2) := by decide +kernel
theorem dL_minutes_405 : decode cL_minutes 405 = .ok (.ifCond .eq 7, 3) := by decide +kernel
theorem dL_minutes_408 : decode cL_minutes 408 = .ok (.iconst 3, 1) := by decide +kernel
theorem dL_minutes_409 : decode cL_minutes 409 = .ok (.goto 5, 3) := by decide +kernel
theorem dL_minutes_412 : decode cL_minutes 412 = .ok (.iload 16, 2) := by decide +kernel
theorem dL_minutes_414 : decode cL_minutes 414 = .ok (.if_icmp .ne 221, 3) := by decide +kernel
theorem dL_minutes_417 : decode cL_minutes 417 = .ok (.aload_n 0, 1) := by decide +kernel
theorem dL_minutes_418 : decode cL_minutes 418 = .ok (.iconst 4, 1) := by decide +kernel
theorem dL_minutes_419 : decode cL_minutes 419 = .ok (.invokestatic 158, 3) := by decide +kernel
theorem dL_minutes_422 : decode cL_minutes 422 = .ok (.lload 21, 2) := by decide +kernel
theorem dL_minutes_424 : decode cL_minutes 424 = .ok (.iload 28, 2) := by decide +kernel
theorem dL_minutes_426 : decode cL_minutes 426 = .ok (.ifCond .eq 7, 3) := by decide +kernel
theorem dL_minutes_429 : decode cL_minutes 429 = .ok (.iconst 0, 1) := by decide +kernel
theorem dL_minutes_430 : decode cL_minutes 430 = .ok (.goto 11, 3) := by decide +kernel
theorem dL_minutes_433 : decode cL_minutes 433 = .ok (.bipush 60, 2) := by decide +kernel
theorem dL_minutes_435 : decode cL_minutes 435 = .ok (.aload_n 0, 1) := by decide +kernel
theorem dL_minutes_436 : decode cL_minutes 436 = .ok (.iconst 4, 1) := by decide +kernel
theorem dL_minutes_437 : decode cL_minutes 437 = .ok (.invokestatic 143, 3) := by decide +kernel
theorem dL_minutes_440 : decode cL_minutes 440 = .ok (.imul, 1) := by decide +kernel
theorem dL_minutes_441 : decode cL_minutes 441 = .ok (.i2l, 1) := by decide +kernel
theorem dL_minutes_442 : decode cL_minutes 442 = .ok (.ladd, 1) := by decide +kernel
theorem dL_minutes_443 : decode cL_minutes 443 = .ok (.lcmp, 1) := by decide +kernel
theorem dL_minutes_444 : decode cL_minutes 444 = .ok (.ifCond .ne 191, 3) := by decide +kernel
theorem dL_minutes_447 : decode cL_minutes 447 = .ok (.aload_n 0, 1) := by decide +kernel
theorem dL_minutes_448 : decode cL_minutes 448 = .ok (.iconst 5, 1) := by decide +kernel
theorem dL_minutes_449 : decode cL_minutes 449 = .ok (.invokestatic 158, 3) := by decide +kernel
theorem dL_minutes_452 : decode cL_minutes 452 = .ok (.lload 23, 2) := by decide +kernel
theorem dL_minutes_454 : decode cL_minutes 454 = .ok (.iload 28, 2) := by decide +kernel
theorem dL_minutes_456 : decode cL_minutes 456 = .ok (.ifCond .eq 7, 3) := by decide +kernel
theorem dL_minutes_459 : decode cL_minutes 459 = .ok (.iconst 0, 1) := by decide +kernel
theorem dL_minutes_460 : decode cL_minutes 460 = .ok (.goto 5, 3) := by decide +kernel
theorem dL_minutes_463 : decode cL_minutes 463 = .ok (.iload 25, 2) := by decide +kernel
theorem dL_minutes_465 : decode cL_minutes 465 = .ok (.i2l, 1) := by decide +kernel
theorem dL_minutes_466 : decode cL_minutes 466 = .ok (.ladd, 1) := by decide +kernel
theorem dL_minutes_467 : decode cL_minutes 467 = .ok (.lcmp, 1) := by decide +kernel
theorem dL_minutes_468 : decode cL_minutes 468 = .ok (.ifCond .ne 167, 3) := by decide +kernel
theorem dL_minutes_471 : decode cL_minutes 471 = .ok (.iload 28, 2) := by decide +kernel
theorem dL_minutes_473 : decode cL_minutes 473 = .ok (.ifCond .eq 11, 3) := by decide +kernel
theorem dL_minutes_476 : decode cL_minutes 476 = .ok (.iload 26, 2) := by decide +kernel
theorem dL_minutes_478 : decode cL_minutes 478 = .ok (.ifCond .ne 157, 3) := by decide +kernel
theorem dL_minutes_481 : decode cL_minutes 481 = .ok (.goto 49, 3) := by decide +kernel
theorem dL_minutes_484 : decode cL_minutes 484 = .ok (.ldc2_w 231, 3) := by decide +kernel
theorem dL_minutes_487 : decode cL_minutes 487 = .ok (.iload 26, 2) := by decide +kernel
theorem dL_minutes_489 : decode cL_minutes 489 = .ok (.iload 13, 2) := by decide +kernel
theorem dL_minutes_491 : decode cL_minutes 491 = .ok (.isub, 1) := by decide +kernel
theorem dL_minutes_492 : decode cL_minutes 492 = .ok (.bipush 60, 2) := by decide +kernel
theorem dL_minutes_494 : decode cL_minutes 494 = .ok (.isub, 1) := by decide +kernel
theorem dL_minutes_495 : decode cL_minutes 495 = .ok (.i2l, 1) := by decide +kernel
theorem dL_minutes_496 : decode cL_minutes 496 = .ok (.lmul, 1) := by decide +kernel
theorem dL_minutes_497 : decode cL_minutes 497 = .ok (.aload_n 0, 1) := by decide +kernel
theorem dL_minutes_498 : decode cL_minutes 498 = .ok (.iconst 2, 1) := by decide +kernel
theorem dL_minutes_499 : decode cL_minutes 499 = .ok (.invokestatic 143, 3) := by decide +kernel
theorem dL_minutes_502 : decode cL_minutes 502 = .ok (.i2l, 1) := by decide +kernel
theorem dL_minutes_503 : decode cL_minutes 503 = .ok (.ladd, 1) := by decide +kernel
theorem dL_minutes_504 : decode cL_minutes 504 = .ok (.iload 14, 2) := by decide +kernel
theorem dL_minutes_506 : decode cL_minutes 506 = .ok (.i2l, 1) := by decide +kernel
theorem dL_minutes_507 : decode cL_minutes 507 = .ok (.lsub, 1) := by decide +kernel
theorem dL_minutes_508 : decode cL_minutes 508 = .ok (.iload 25, 2) := by decide +kernel
theorem dL_minutes_510 : decode cL_minutes 510 = .ok (.i2l, 1) := by decide +kernel
theorem dL_minutes_511 : decode cL_minutes 511 = .ok (.lcmp, 1) := by decide +kernel
theorem dL_minutes_512 : decode cL_minutes 512 = .ok (.ifCond .ne 123, 3) := by decide +kernel
theorem dL_minutes_515 : decode cL_minutes 515 = .ok (.iload 26, 2) := by decide +kernel
theorem dL_minutes_517 : decode cL_minutes 517 = .ok (.iload 13, 2) := by decide +kernel
theorem dL_minutes_519 : decode cL_minutes 519 = .ok (.isub, 1) := by decide +kernel
theorem dL_minutes_520 : decode cL_minutes 520 = .ok (.bipush 60, 2) := by decide +kernel
theorem dL_minutes_522 : decode cL_minutes 522 = .ok (.isub, 1) := by decide +kernel
theorem dL_minutes_523 : decode cL_minutes 523 = .ok (.invokestatic 131, 3) := by decide +kernel
theorem dL_minutes_526 : decode cL_minutes 526 = .ok (.iconst 1, 1) := by decide +kernel
theorem dL_minutes_527 : decode cL_minutes 527 = .ok (.if_icmp .gt 108, 3) := by decide +kernel
theorem dL_minutes_530 : decode cL_minutes 530 = .ok (.aload_n 0, 1) := by decide +kernel
theorem dL_minutes_531 : decode cL_minutes 531 = .ok (.iload 9, 2) := by decide +kernel
theorem dL_minutes_533 : decode cL_minutes 533 = .ok (.iconst 2, 1) := by decide +kernel
theorem dL_minutes_534 : decode cL_minutes 534 = .ok (.invokestatic 161, 3) := by decide +kernel
theorem dL_minutes_537 : decode cL_minutes 537 = .ok (.iload 19, 2) := by decide +kernel
theorem dL_minutes_539 : decode cL_minutes 539 = .ok (.iload 29, 2) := by decide +kernel
theorem dL_minutes_541 : decode cL_minutes 541 = .ok (.ifCond .eq 12, 3) := by decide +kernel
theorem dL_minutes_544 : decode cL_minutes 544 = .ok (.iload 16, 2) := by decide +kernel
theorem dL_minutes_546 : decode cL_minutes 546 = .ok (.ifCond .ne 7, 3) := by decide +kernel
theorem dL_minutes_549 : decode cL_minutes 549 = .ok (.iconst 1, 1) := by decide +kernel
theorem dL_minutes_550 : decode cL_minutes 550 = .ok (.goto 4, 3) := by decide +kernel
theorem dL_minutes_553 : decode cL_minutes 553 = .ok (.iconst 0, 1) := by decide +kernel
theorem dL_minutes_554 : decode cL_minutes 554 = .ok (.iadd, 1) := by decide +kernel
theorem dL_minutes_555 : decode cL_minutes 555 = .ok (.if_icmp .ne 80, 3) := by decide +kernel
theorem dL_minutes_558 : decode cL_minutes 558 = .ok (.aload_n 0, 1) := by decide +kernel
theorem dL_minutes_559 : decode cL_minutes 559 = .ok (.iload 9, 2) := by decide +kernel
theorem dL_minutes_561 : decode cL_minutes 561 = .ok (.iconst 1, 1) := by decide +kernel
theorem dL_minutes_562 : decode cL_minutes 562 = .ok (.invokestatic 161, 3) := by decide +kernel
theorem dL_minutes_565 : decode cL_minutes 565 = .ok (.iload 28, 2) := by decide +kernel
theorem dL_minutes_567 : decode cL_minutes 567 = .ok (.ifCond .ne 8, 3) := by decide +kernel
theorem dL_minutes_570 : decode cL_minutes 570 = .ok (.iload 16, 2) := by decide +kernel
theorem dL_minutes_572 : decode cL_minutes 572 = .ok (.ifCond .ne 7, 3) := by decide +kernel
theorem dL_minutes_575 : decode cL_minutes 575 = .ok (.iconst 0, 1) := by decide +kernel
theorem dL_minutes_576 : decode cL_minutes 576 = .ok (.goto 14, 3) := by decide +kernel
theorem dL_minutes_579 : decode cL_minutes 579 = .ok (.iload 29, 2) := by decide +kernel
theorem dL_minutes_581 : decode cL_minutes 581 = .ok (.ifCond .eq 7, 3) := by decide +kernel
theorem dL_minutes_584 : decode cL_minutes 584 = .ok (.iconst 1, 1) := by decide +kernel
theorem dL_minutes_585 : decode cL_minutes 585 = .ok (.goto 5, 3) := by decide +kernel
theorem dL_minutes_588 : decode cL_minutes 588 = .ok (.iload 18, 2) := by decide +kernel
theorem dL_minutes_590 : decode cL_minutes 590 = .ok (.if_icmp .ne 45, 3) := by decide +kernel
theorem dL_minutes_593 : decode cL_minutes 593 = .ok (.iload 10, 2) := by decide +kernel
theorem dL_minutes_595 : decode cL_minutes 595 = .ok (.ldc 138, 2) := by decide +kernel
theorem dL_minutes_597 : decode cL_minutes 597 = .ok (.if_icmp .eq 10, 3) := by decide +kernel
theorem dL_minutes_600 : decode cL_minutes 600 = .ok (.iload 10, 2) := by decide +kernel
theorem dL_minutes_602 : decode cL_minutes 602 = .ok (.iload 12, 2) := by decide +kernel
theorem dL_minutes_604 : decode cL_minutes 604 = .ok (.if_icmp .lt 20, 3) := by decide +kernel
theorem dL_minutes_607 : decode cL_minutes 607 = .ok (.iload 10, 2) := by decide +kernel
theorem dL_minutes_609 : decode cL_minutes 609 = .ok (.iload 12, 2) := by decide +kernel
theorem dL_minutes_611 : decode cL_minutes 611 = .ok (.if_icmp .ne 7, 3) := by decide +kernel
theorem dL_minutes_614 : decode cL_minutes 614 = .ok (.iconst 1, 1) := by decide +kernel
theorem dL_minutes_615 : decode cL_minutes 615 = .ok (.goto 4, 3) := by decide +kernel
theorem dL_minutes_618 : decode cL_minutes 618 = .ok (.iconst 0, 1) := by decide +kernel
theorem dL_minutes_619 : decode cL_minutes 619 = .ok (.iload 29, 2) := by decide +kernel
theorem dL_minutes_621 : decode cL_minutes 621 = .ok (.if_icmp .ne 14, 3) := by decide +kernel
theorem dL_minutes_624 : decode cL_minutes 624 = .ok (.aload_n 0, 1) := by decide +kernel
theorem dL_minutes_625 : decode cL_minutes 625 = .ok (.invokestatic 233, 3) := by decide +kernel
theorem dL_minutes_628 : decode cL_minutes 628 = .ok (.ifCond .eq 7, 3) := by decide +kernel
theorem dL_minutes_631 : decode cL_minutes 631 = .ok (.iconst 1, 1) := by decide +kernel
theorem dL_minutes_632 : decode cL_minutes 632 = .ok (.goto 4, 3) := by decide +kernel
theorem dL_minutes_635 : decode cL_minutes 635 = .ok (.iconst 0, 1) := by decide +kernel
theorem dL_minutes_636 : decode cL_minutes 636 = .ok (.istore 11, 2) := by decide +kernel
theorem dL_minutes_638 : decode cL_minutes 638 = .ok (.iinc 12 1, 3) := by decide +kernel
theorem dL_minutes_641 : decode cL_minutes 641 = .ok (.goto (-532), 3) := by decide +kernel
theorem dL_minutes_644 : decode cL_minutes 644 = .ok (.iload 11, 2) := by decide +kernel
theorem dL_minutes_646 : decode cL_minutes 646 = .ok (.ifCond .eq 69, 3) := by decide +kernel
theorem dL_minutes_649 : decode cL_minutes 649 = .ok (.aload_n 0, 1) := by decide +kernel
theorem dL_minutes_650 : decode cL_minutes 650 = .ok (.iconst 1, 1) := by decide +kernel
theorem dL_minutes_651 : decode cL_minutes 651 = .ok (.invokestatic 143, 3) := by decide +kernel
theorem dL_minutes_654 : decode cL_minutes 654 = .ok (.iload_n 3, 1) := by decide +kernel
theorem dL_minutes_655 : decode cL_minutes 655 = .ok (.if_icmp .ne 60, 3) := by decide +kernel
theorem dL_minutes_658 : decode cL_minutes 658 = .ok (.aload_n 0, 1) := by decide +kernel
theorem dL_minutes_659 : decode cL_minutes 659 = .ok (.iconst 2, 1) := by decide +kernel
theorem dL_minutes_660 : decode cL_minutes 660 = .ok (.invokestatic 143, 3) := by decide +kernel
theorem dL_minutes_663 : decode cL_minutes 663 = .ok (.iload 4, 2) := by decide +kernel
theorem dL_minutes_665 : decode cL_minutes 665 = .ok (.if_icmp .ne 50, 3) := by decide +kernel
theorem dL_minutes_668 : decode cL_minutes 668 = .ok (.aload_n 0, 1) := by decide +kernel
theorem dL_minutes_669 : decode cL_minutes 669 = .ok (.iconst 5, 1) := by decide +kernel
theorem dL_minutes_670 : decode cL_minutes 670 = .ok (.invokestatic 143, 3) := by decide +kernel
theorem dL_minutes_673 : decode cL_minutes 673 = .ok (.iload 5, 2) := by decide +kernel
theorem dL_minutes_675 : decode cL_minutes 675 = .ok (.if_icmp .ne 40, 3) := by decide +kernel
theorem dL_minutes_678 : decode cL_minutes 678 = .ok (.aload_n 0, 1) := by decide +kernel
theorem dL_minutes_679 : decode cL_minutes 679 = .ok (.bipush 8, 2) := by decide +kernel
theorem dL_minutes_681 : decode cL_minutes 681 = .ok (.invokestatic 143, 3) := by decide +kernel
theorem dL_minutes_684 : decode cL_minutes 684 = .ok (.iload 6, 2) := by decide +kernel
theorem dL_minutes_686 : decode cL_minutes 686 = .ok (.if_icmp .ne 29, 3) := by decide +kernel
theorem dL_minutes_689 : decode cL_minutes 689 = .ok (.aload_n 0, 1) := by decide +kernel
theorem dL_minutes_690 : decode cL_minutes 690 = .ok (.bipush 9, 2) := by decide +kernel
theorem dL_minutes_692 : decode cL_minutes 692 = .ok (.invokestatic 143, 3) := by decide +kernel
theorem dL_minutes_695 : decode cL_minutes 695 = .ok (.iload 7, 2) := by decide +kernel
theorem dL_minutes_697 : decode cL_minutes 697 = .ok (.if_icmp .ne 18, 3) := by decide +kernel
theorem dL_minutes_700 : decode cL_minutes 700 = .ok (.aload_n 0, 1) := by decide +kernel
theorem dL_minutes_701 : decode cL_minutes 701 = .ok (.bipush 12, 2) := by decide +kernel
theorem dL_minutes_703 : decode cL_minutes 703 = .ok (.invokestatic 143, 3) := by decide +kernel
theorem dL_minutes_706 : decode cL_minutes 706 = .ok (.iload 8, 2) := by decide +kernel
theorem dL_minutes_708 : decode cL_minutes 708 = .ok (.if_icmp .ne 7, 3) := by decide +kernel
theorem dL_minutes_711 : decode cL_minutes 711 = .ok (.iconst 1, 1) := by decide +kernel
theorem dL_minutes_712 : decode cL_minutes 712 = .ok (.goto 4, 3) := by decide +kernel
theorem dL_minutes_715 : decode cL_minutes 715 = .ok (.iconst 0, 1) := by decide +kernel
theorem dL_minutes_716 : decode cL_minutes 716 = .ok (.ireturn, 1) := by decide +kernel
set_option maxRecDepth 20000 in
theorem ggL_hands_L_tryAbout : GoodIn wsL_hands wsL_tryAbout := goodIn_ca (goodIn_r _ [7, 8, 9, 10, 11, 12, 13, 14, 15, 16, 17, 18, 19, 20, 21, 22, 23, 24, 25, 26, 27, 28, 29, 30, 31, 32, 33, 34, 35, 36, 37, 38, 39, 40, 41, 42, 43, 44, 45, 46, 47, 48, 49, 50, 51, 52, 53, 54, 55, 56, 57, 58, 59, 60, 61, 62, 63, 64, 65, 66, 67, 68, 445, 446, 447, 448, 449, 450, 451, 452, 453, 454, 455, 456, 457, 458, 459, 460, 461, 462, 463, 464, 465, 466, 467, 468, 469, 470, 471, 472, 473, 474, 475] rfl (by decide +kernel)) (goodIn_sub (fun _ h => List.mem_cons_of_mem _ (List.mem_append_left _ (List.mem_append_left _ (List.mem_append_right _ h)))) (by decide +kernel))
set_option maxRecDepth 20000 in
theorem gL_hands_L_tryAbout : GoodIn wsL_hands (va_wsS RL 143 yL_tryAbout wsL_tryAbout) := goodIn_app (goodIn_of _ (by decide +kernel)) ggL_hands_L_tryAbout
set_option maxRecDepth 20000 in
theorem ggL_hands_L_trySave : GoodIn wsL_hands wsL_trySave := goodIn_ca (goodIn_r _ [71, 72, 73, 74, 75, 76, 13, 77, 78, 79, 15, 80, 81, 82, 83, 84, 85, 86, 87, 88, 89, 24, 90, 26, 27, 33, 36, 91, 92, 93, 94, 95, 55, 96, 97, 98, 99, 100, 101, 102, 103, 104, 105, 106, 107, 108, 109, 110, 47, 111, 112, 113, 49, 50, 114, 115, 116, 117, 118, 119, 120, 121, 122, 123, 124, 125, 126, 127, 128, 129, 64, 130, 66, 67, 68, 445, 446, 447, 448, 449, 476, 477, 450, 451, 452, 453, 454, 455, 456, 457, 458, 459, 460, 461, 462, 463, 464, 465, 466, 467, 468, 469, 470, 471, 472, 473, 474, 475] rfl (by decide +kernel)) (goodIn_sub (fun _ h => List.mem_cons_of_mem _ (List.mem_append_left _ (List.mem_append_right _ h))) (by decide +kernel))
set_option maxRecDepth 20000 in
theorem gL_hands_L_trySave : GoodIn wsL_hands (va_wsS RL 221 yL_trySave wsL_trySave) := goodIn_app (goodIn_of _ (by decide +kernel)) ggL_hands_L_trySave
set_option maxRecDepth 20000 in
theorem ggL_hands_L_tryLevel : GoodIn wsL_hands wsL_tryLevel := goodIn_ca (goodIn_r _ [133, 8, 9, 134, 135, 136, 13, 137, 138, 15, 139, 16, 17, 18, 19, 20, 140, 141, 142, 143, 144, 145, 146, 147, 148, 149, 150, 151, 88, 89, 24, 90, 26, 27, 33, 36, 91, 92, 93, 94, 95, 55, 96, 97, 98, 99, 100, 101, 102, 103, 104, 105, 106, 107, 108, 109, 110, 47, 111, 112, 113, 49, 50, 114, 115, 116, 117, 118, 119, 120, 121, 122, 123, 124, 125, 126, 127, 128, 129, 64, 130, 66, 67, 68, 152, 153, 154, 155, 34, 44, 45, 46, 48, 156, 157, 158, 159, 160, 161, 162, 163, 39, 37, 164, 165, 166, 167, 168, 169, 170, 171, 172, 173, 174, 175, 176, 177, 178, 179, 180, 181, 445, 446, 447, 448, 449, 450, 451, 452, 453, 454, 455, 478, 479, 456, 457, 458, 459, 460, 461, 462, 463, 464, 465, 466, 467, 468, 469, 470, 471, 472, 473, 474, 475] rfl (by decide +kernel)) (goodIn_sub (fun _ h => List.mem_cons_of_mem _ (List.mem_append_left _ (List.mem_append_left _ (List.mem_append_right _ h)))) (by decide +kernel))
set_option maxRecDepth 20000 in
theorem gL_hands_L_tryLevel : GoodIn wsL_hands (va_wsS RL 171 yL_tryLevel wsL_tryLevel) := goodIn_app (goodIn_of _ (by decide +kernel)) ggL_hands_L_tryLevel
set_option maxRecDepth 20000 in
theorem ggL_hands_L_sound : GoodIn wsL_hands wsL_sound := goodIn_ca (goodIn_ca (goodIn_r _ [184, 185, 1, 4, 5, 6, 7, 8, 9, 10, 11, 12, 13, 14, 15, 16, 17, 18, 19, 20, 21, 22, 23, 24, 25, 26, 27, 28, 29, 30, 31, 32, 33, 34, 35, 36, 37, 38, 39, 40, 41, 42, 43, 44, 45, 46, 47, 48, 49, 50, 51, 52, 53, 54, 55, 56, 57, 58, 59, 60, 61, 62, 63, 64, 65, 66, 67, 68, 186, 187, 188, 189, 190, 191, 192, 193, 139, 194, 195, 196, 197, 198, 199, 200, 72, 73, 201, 202, 203, 204, 205, 82, 83, 84, 85, 86, 206, 207, 208, 209, 210, 181, 211, 212, 213, 214, 215, 216, 217, 218, 219, 220, 221, 222, 223, 224, 225, 226, 227, 228, 229, 230, 231, 232, 233, 234, 235, 236, 237, 238, 239, 240, 241, 242, 243, 118, 244, 122, 123, 124, 445, 446, 447, 448, 449, 450, 451, 452, 453, 454, 455, 456, 457, 458, 459, 460, 461, 462, 463, 464, 465, 466, 467, 468, 469, 470, 471, 472, 473, 474, 475] rfl (by decide +kernel)) (goodIn_sub (fun _ h => List.mem_cons_of_mem _ (List.mem_append_left _ (List.mem_append_left _ (List.mem_append_right _ h)))) (by decide +kernel))) (goodIn_sub (fun _ h => List.mem_cons_of_mem _ (List.mem_append_left _ (List.mem_append_right _ h))) (by decide +kernel))
set_option maxRecDepth 20000 in
theorem gL_hands_L_sound : GoodIn wsL_hands (va_wsS RL 233 yL_sound wsL_sound) := goodIn_app (goodIn_of _ (by decide +kernel)) ggL_hands_L_sound
set_option maxRecDepth 20000 in
theorem ggL_hands_L_tryRestore : GoodIn wsL_hands wsL_tryRestore := goodIn_ca (goodIn_ca (goodIn_r _ [247, 72, 248, 73, 3, 249, 250, 251, 13, 252, 253, 254, 78, 80, 15, 79, 138, 81, 82, 83, 84, 85, 86, 87, 88, 89, 24, 90, 26, 27, 33, 36, 91, 92, 93, 94, 95, 55, 96, 97, 98, 99, 100, 101, 102, 103, 104, 105, 106, 107, 108, 109, 110, 47, 111, 112, 113, 49, 50, 114, 115, 116, 117, 118, 119, 120, 121, 122, 123, 124, 125, 126, 127, 128, 129, 64, 130, 66, 67, 68, 255, 256, 257, 143, 258, 145, 445, 446, 447, 448, 449, 476, 477, 450, 451, 452, 453, 454, 455, 456, 457, 458, 459, 460, 461, 462, 463, 464, 465, 466, 467, 468, 469, 470, 471, 472, 473, 474, 475, 478, 479] rfl (by decide +kernel)) (goodIn_sub (fun _ h => List.mem_cons_of_mem _ (List.mem_append_right _ h)) (by decide +kernel))) (goodIn_sub (fun _ h => List.mem_cons_of_mem _ (List.mem_append_left _ (List.mem_append_right _ h))) (by decide +kernel))
set_option maxRecDepth 20000 in
theorem gL_hands_L_tryRestore : GoodIn wsL_hands (va_wsS RL 155 yL_tryRestore wsL_tryRestore) := goodIn_app (goodIn_of _ (by decide +kernel)) ggL_hands_L_tryRestore
set_option maxRecDepth 20000 in
theorem ggL_hands_L_tryBattery : GoodIn wsL_hands wsL_tryBattery := goodIn_ca (goodIn_r _ [261, 8, 9, 262, 263, 264, 13, 265, 138, 15, 139, 16, 17, 18, 19, 20, 140, 141, 142, 143, 144, 145, 146, 147, 148, 149, 150, 151, 88, 89, 24, 90, 26, 27, 33, 36, 91, 92, 93, 94, 95, 55, 96, 97, 98, 99, 100, 101, 102, 103, 104, 105, 106, 107, 108, 109, 110, 47, 111, 112, 113, 49, 50, 114, 115, 116, 117, 118, 119, 120, 121, 122, 123, 124, 125, 126, 127, 128, 129, 64, 130, 66, 67, 68, 266, 267, 268, 269, 35, 44, 45, 46, 48, 156, 157, 158, 159, 160, 161, 162, 163, 39, 37, 164, 165, 166, 167, 168, 169, 170, 171, 172, 173, 174, 175, 176, 177, 178, 179, 180, 181, 445, 446, 447, 448, 449, 450, 451, 452, 453, 454, 455, 478, 479, 456, 457, 458, 459, 460, 461, 462, 463, 464, 465, 466, 467, 468, 469, 470, 471, 472, 473, 474, 475] rfl (by decide +kernel)) (goodIn_sub (fun _ h => List.mem_cons_of_mem _ (List.mem_append_left _ (List.mem_append_left _ (List.mem_append_right _ h)))) (by decide +kernel))
set_option maxRecDepth 20000 in
theorem gL_hands_L_tryBattery : GoodIn wsL_hands (va_wsS RL 196 yL_tryBattery wsL_tryBattery) := goodIn_app (goodIn_of _ (by decide +kernel)) ggL_hands_L_tryBattery
set_option maxRecDepth 20000 in
theorem ggL_hands_L_tryIsGuarded : GoodIn wsL_hands wsL_tryIsGuarded := goodIn_ca (goodIn_r _ [272, 72, 73, 273, 274, 275, 13, 276, 15, 239, 277, 82, 83, 84, 85, 86, 445, 446, 447, 448, 449, 450, 451, 452, 453, 454, 455, 467, 468, 469, 470, 471, 472] rfl (by decide +kernel)) (goodIn_sub (fun _ h => List.mem_cons_of_mem _ (List.mem_append_left _ (List.mem_append_right _ h))) (by decide +kernel))
set_option maxRecDepth 20000 in
theorem gL_hands_L_tryIsGuarded : GoodIn wsL_hands (va_wsS RL 149 yL_tryIsGuarded wsL_tryIsGuarded) := goodIn_app (goodIn_of _ (by decide +kernel)) ggL_hands_L_tryIsGuarded
set_option maxRecDepth 20000 in
theorem ggL_hands_L_tryRegister : GoodIn wsL_hands wsL_tryRegister := goodIn_ca (goodIn_r _ [226, 72, 73, 227, 228, 229, 13, 230, 15, 231, 82, 83, 84, 85, 86, 445, 446, 447, 448, 449, 450, 451, 452, 453, 454, 455] rfl (by decide +kernel)) (goodIn_sub (fun _ h => List.mem_cons_of_mem _ (List.mem_append_left _ (List.mem_append_right _ h))) (by decide +kernel))
set_option maxRecDepth 20000 in
theorem gL_hands_L_tryRegister : GoodIn wsL_hands (va_wsS RL 146 yL_tryRegister wsL_tryRegister) := goodIn_app (goodIn_of _ (by decide +kernel)) ggL_hands_L_tryRegister
set_option maxRecDepth 20000 in
theorem ggL_hands_L_tryTamper : GoodIn wsL_hands wsL_tryTamper := goodIn_ca (goodIn_r _ [280, 72, 73, 281, 282, 283, 13, 284, 138, 15, 239, 240, 82, 83, 84, 85, 86, 140, 141, 142, 143, 144, 145, 146, 147, 148, 149, 150, 151, 88, 89, 24, 90, 26, 27, 33, 36, 91, 92, 93, 94, 95, 55, 96, 97, 98, 99, 100, 101, 102, 103, 104, 105, 106, 107, 108, 109, 110, 47, 111, 112, 113, 49, 50, 114, 115, 116, 117, 118, 119, 120, 121, 122, 123, 124, 125, 126, 127, 128, 129, 64, 130, 66, 67, 68, 285, 286, 287, 288, 289, 28, 44, 45, 46, 48, 169, 170, 171, 172, 290, 291, 292, 293, 445, 446, 447, 448, 449, 450, 451, 452, 453, 454, 455, 467, 468, 469, 470, 471, 472, 478, 479, 456, 457, 458, 459, 460, 461, 462, 463, 464, 465, 466, 473, 474, 475] rfl (by decide +kernel)) (goodIn_sub (fun _ h => List.mem_cons_of_mem _ (List.mem_append_left _ (List.mem_append_right _ h))) (by decide +kernel))
set_option maxRecDepth 20000 in
theorem gL_hands_L_tryTamper : GoodIn wsL_hands (va_wsS RL 190 yL_tryTamper wsL_tryTamper) := goodIn_app (goodIn_of _ (by decide +kernel)) ggL_hands_L_tryTamper
set_option maxRecDepth 20000 in
theorem ggL_hands_L_tryRow : GoodIn wsL_hands wsL_tryRow := goodIn_ca (goodIn_ca (goodIn_r _ [234, 72, 8, 73, 9, 235, 236, 237, 13, 238, 15, 239, 240, 82, 83, 84, 85, 86, 16, 17, 18, 19, 20, 241, 242, 243, 118, 244, 122, 123, 124, 445, 446, 447, 448, 449, 450, 451, 452, 453, 454, 455, 467, 468, 469, 470, 471, 472] rfl (by decide +kernel)) (goodIn_sub (fun _ h => List.mem_cons_of_mem _ (List.mem_append_left _ (List.mem_append_right _ h))) (by decide +kernel))) (goodIn_sub (fun _ h => List.mem_cons_of_mem _ (List.mem_append_left _ (List.mem_append_left _ (List.mem_append_right _ h)))) (by decide +kernel))
set_option maxRecDepth 20000 in
theorem gL_hands_L_tryRow : GoodIn wsL_hands (va_wsS RL 165 yL_tryRow wsL_tryRow) := goodIn_app (goodIn_of _ (by decide +kernel)) ggL_hands_L_tryRow
set_option maxRecDepth 20000 in
theorem ggL_hands_L_tryAlarm : GoodIn wsL_hands wsL_tryAlarm := goodIn_ca (goodIn_ca (goodIn_r _ [200, 72, 8, 73, 9, 201, 202, 203, 13, 204, 15, 205, 82, 83, 84, 85, 86, 16, 17, 18, 19, 20, 206, 62, 63, 64, 65, 66, 67, 68, 445, 446, 447, 448, 449, 450, 451, 452, 453, 454, 455, 473, 474, 475] rfl (by decide +kernel)) (goodIn_sub (fun _ h => List.mem_cons_of_mem _ (List.mem_append_left _ (List.mem_append_right _ h))) (by decide +kernel))) (goodIn_sub (fun _ h => List.mem_cons_of_mem _ (List.mem_append_left _ (List.mem_append_left _ (List.mem_append_right _ h)))) (by decide +kernel))
set_option maxRecDepth 20000 in
theorem gL_hands_L_tryAlarm : GoodIn wsL_hands (va_wsS RL 161 yL_tryAlarm wsL_tryAlarm) := goodIn_app (goodIn_of _ (by decide +kernel)) ggL_hands_L_tryAlarm
set_option maxRecDepth 20000 in
theorem ggL_hands_L_trySetAlarm : GoodIn wsL_hands wsL_trySetAlarm := goodIn_ca (goodIn_ca (goodIn_r _ [296, 72, 8, 73, 9, 297, 298, 299, 13, 300, 138, 15, 205, 301, 302, 82, 83, 84, 85, 86, 16, 17, 18, 19, 20, 140, 141, 142, 143, 144, 145, 146, 147, 148, 149, 150, 151, 88, 89, 24, 90, 26, 27, 33, 36, 91, 92, 93, 94, 95, 55, 96, 97, 98, 99, 100, 101, 102, 103, 104, 105, 106, 107, 108, 109, 110, 47, 111, 112, 113, 49, 50, 114, 115, 116, 117, 118, 119, 120, 121, 122, 123, 124, 125, 126, 127, 128, 129, 64, 130, 66, 67, 68, 303, 304, 305, 306, 445, 446, 447, 448, 449, 450, 451, 452, 453, 454, 455, 473, 474, 475, 478, 479, 456, 457, 458, 459, 460, 461, 462, 463, 464, 465, 466, 467, 468, 469, 470, 471, 472] rfl (by decide +kernel)) (goodIn_sub (fun _ h => List.mem_cons_of_mem _ (List.mem_append_left _ (List.mem_append_right _ h))) (by decide +kernel))) (goodIn_sub (fun _ h => List.mem_cons_of_mem _ (List.mem_append_left _ (List.mem_append_left _ (List.mem_append_right _ h)))) (by decide +kernel))
set_option maxRecDepth 20000 in
theorem gL_hands_L_trySetAlarm : GoodIn wsL_hands (va_wsS RL 193 yL_trySetAlarm wsL_trySetAlarm) := goodIn_app (goodIn_of _ (by decide +kernel)) ggL_hands_L_trySetAlarm
set_option maxRecDepth 20000 in
theorem ggL_hands_L_tryDueAfter : GoodIn wsL_hands wsL_tryDueAfter := goodIn_ca (goodIn_r _ [309, 72, 73, 310, 311, 312, 13, 313, 314, 15, 195, 205, 302, 82, 83, 84, 85, 86, 87, 88, 89, 24, 90, 26, 27, 33, 36, 91, 92, 93, 94, 95, 55, 96, 97, 98, 99, 100, 101, 102, 103, 104, 105, 106, 107, 108, 109, 110, 47, 111, 112, 113, 49, 50, 114, 115, 116, 117, 118, 119, 120, 121, 122, 123, 124, 125, 126, 127, 128, 129, 64, 130, 66, 67, 68, 315, 316, 317, 318, 319, 320, 321, 322, 44, 45, 46, 48, 323, 324, 325, 326, 223, 156, 157, 158, 159, 160, 161, 162, 163, 39, 37, 164, 165, 166, 167, 168, 169, 170, 171, 172, 173, 174, 175, 176, 177, 178, 179, 180, 327, 328, 329, 330, 331, 332, 333, 334, 335, 336, 337, 338, 339, 340, 341, 342, 343, 344, 345, 445, 446, 447, 448, 449, 450, 451, 452, 453, 454, 455, 456, 457, 458, 459, 460, 461, 462, 463, 464, 465, 466, 467, 468, 469, 470, 471, 472, 473, 474, 475] rfl (by decide +kernel)) (goodIn_sub (fun _ h => List.mem_cons_of_mem _ (List.mem_append_left _ (List.mem_append_right _ h))) (by decide +kernel))
set_option maxRecDepth 20000 in
theorem gL_hands_L_tryDueAfter : GoodIn wsL_hands (va_wsS RL 205 yL_tryDueAfter wsL_tryDueAfter) := goodIn_app (goodIn_of _ (by decide +kernel)) ggL_hands_L_tryDueAfter
set_option maxRecDepth 20000 in
theorem ggL_hands_L_trySetTime : GoodIn wsL_hands wsL_trySetTime := goodIn_ca (goodIn_ca (goodIn_r _ [348, 8, 248, 9, 3, 349, 350, 351, 13, 352, 353, 138, 15, 195, 354, 16, 17, 18, 19, 20, 355, 356, 357, 358, 253, 254, 359, 360, 361, 24, 362, 33, 44, 45, 46, 47, 48, 49, 50, 140, 141, 142, 143, 144, 145, 146, 147, 148, 149, 150, 151, 88, 89, 90, 26, 27, 36, 91, 92, 93, 94, 95, 55, 96, 97, 98, 99, 100, 101, 102, 103, 104, 105, 106, 107, 108, 109, 110, 111, 112, 113, 114, 115, 116, 117, 118, 119, 120, 121, 122, 123, 124, 125, 126, 127, 128, 129, 64, 130, 66, 67, 68, 363, 364, 365, 366, 445, 446, 447, 448, 449, 450, 451, 452, 453, 454, 455, 456, 457, 458, 459, 460, 461, 462, 463, 464, 465, 466, 478, 479, 467, 468, 469, 470, 471, 472, 473, 474, 475] rfl (by decide +kernel)) (goodIn_sub (fun _ h => List.mem_cons_of_mem _ (List.mem_append_left _ (List.mem_append_left _ (List.mem_append_right _ h)))) (by decide +kernel))) (goodIn_sub (fun _ h => List.mem_cons_of_mem _ (List.mem_append_right _ h)) (by decide +kernel))
set_option maxRecDepth 20000 in
theorem gL_hands_L_trySetTime : GoodIn wsL_hands (va_wsS RL 174 yL_trySetTime wsL_trySetTime) := goodIn_app (goodIn_of _ (by decide +kernel)) ggL_hands_L_trySetTime
set_option maxRecDepth 20000 in
theorem ggL_hands_L_tryCorrect : GoodIn wsL_hands wsL_tryCorrect := goodIn_ca (goodIn_ca (goodIn_r _ [369, 8, 248, 9, 3, 370, 371, 372, 13, 373, 138, 15, 195, 374, 16, 17, 18, 19, 20, 355, 356, 357, 358, 253, 254, 359, 360, 361, 24, 362, 33, 44, 45, 46, 47, 48, 49, 50, 140, 141, 142, 143, 144, 145, 146, 147, 148, 149, 150, 151, 88, 89, 90, 26, 27, 36, 91, 92, 93, 94, 95, 55, 96, 97, 98, 99, 100, 101, 102, 103, 104, 105, 106, 107, 108, 109, 110, 111, 112, 113, 114, 115, 116, 117, 118, 119, 120, 121, 122, 123, 124, 125, 126, 127, 128, 129, 64, 130, 66, 67, 68, 445, 446, 447, 448, 449, 450, 451, 452, 453, 454, 455, 456, 457, 458, 459, 460, 461, 462, 463, 464, 465, 466, 478, 479, 467, 468, 469, 470, 471, 472, 473, 474, 475] rfl (by decide +kernel)) (goodIn_sub (fun _ h => List.mem_cons_of_mem _ (List.mem_append_left _ (List.mem_append_left _ (List.mem_append_right _ h)))) (by decide +kernel))) (goodIn_sub (fun _ h => List.mem_cons_of_mem _ (List.mem_append_right _ h)) (by decide +kernel))
set_option maxRecDepth 20000 in
theorem gL_hands_L_tryCorrect : GoodIn wsL_hands (va_wsS RL 178 yL_tryCorrect wsL_tryCorrect) := goodIn_app (goodIn_of _ (by decide +kernel)) ggL_hands_L_tryCorrect
set_option maxRecDepth 20000 in
theorem ggL_hands_L_tryWrite : GoodIn wsL_hands wsL_tryWrite := goodIn_ca (goodIn_ca (goodIn_ca (goodIn_r _ [377, 72, 8, 248, 73, 9, 3, 378, 379, 380, 13, 381, 138, 15, 231, 82, 83, 84, 85, 86, 16, 17, 18, 19, 20, 355, 356, 357, 358, 253, 254, 359, 360, 361, 24, 362, 33, 44, 45, 46, 47, 48, 49, 50, 140, 141, 142, 143, 144, 145, 146, 147, 148, 149, 150, 151, 88, 89, 90, 26, 27, 36, 91, 92, 93, 94, 95, 55, 96, 97, 98, 99, 100, 101, 102, 103, 104, 105, 106, 107, 108, 109, 110, 111, 112, 113, 114, 115, 116, 117, 118, 119, 120, 121, 122, 123, 124, 125, 126, 127, 128, 129, 64, 130, 66, 67, 68, 445, 446, 447, 448, 449, 450, 451, 452, 453, 454, 455, 463, 464, 465, 466, 478, 479, 456, 457, 458, 459, 460, 461, 462, 467, 468, 469, 470, 471, 472, 473, 474, 475] rfl (by decide +kernel)) (goodIn_sub (fun _ h => List.mem_cons_of_mem _ (List.mem_append_left _ (List.mem_append_right _ h))) (by decide +kernel))) (goodIn_sub (fun _ h => List.mem_cons_of_mem _ (List.mem_append_left _ (List.mem_append_left _ (List.mem_append_right _ h)))) (by decide +kernel))) (goodIn_sub (fun _ h => List.mem_cons_of_mem _ (List.mem_append_right _ h)) (by decide +kernel))
set_option maxRecDepth 20000 in
theorem gL_hands_L_tryWrite : GoodIn wsL_hands (va_wsS RL 184 yL_tryWrite wsL_tryWrite) := goodIn_app (goodIn_of _ (by decide +kernel)) ggL_hands_L_tryWrite
set_option maxRecDepth 20000 in
theorem ggL_hands_L_tryClearRows : GoodIn wsL_hands wsL_tryClearRows := goodIn_ca (goodIn_r _ [384, 248, 3, 385, 386, 387, 13, 388, 138, 15, 239, 240, 355, 356, 357, 358, 253, 254, 359, 360, 361, 24, 362, 33, 44, 45, 46, 47, 48, 49, 50, 140, 141, 142, 143, 144, 145, 146, 147, 148, 149, 150, 151, 88, 89, 90, 26, 27, 36, 91, 92, 93, 94, 95, 55, 96, 97, 98, 99, 100, 101, 102, 103, 104, 105, 106, 107, 108, 109, 110, 111, 112, 113, 114, 115, 116, 117, 118, 119, 120, 121, 122, 123, 124, 125, 126, 127, 128, 129, 64, 130, 66, 67, 68, 445, 446, 447, 448, 449, 450, 451, 452, 453, 454, 455, 467, 468, 469, 470, 471, 472, 463, 464, 465, 466, 478, 479, 456, 457, 458, 459, 460, 461, 462, 473, 474, 475] rfl (by decide +kernel)) (goodIn_sub (fun _ h => List.mem_cons_of_mem _ (List.mem_append_right _ h)) (by decide +kernel))
set_option maxRecDepth 20000 in
theorem gL_hands_L_tryClearRows : GoodIn wsL_hands (va_wsS RL 199 yL_tryClearRows wsL_tryClearRows) := goodIn_app (goodIn_of _ (by decide +kernel)) ggL_hands_L_tryClearRows
set_option maxRecDepth 20000 in
theorem ggL_hands_L_tryBestCorrection : GoodIn wsL_hands wsL_tryBestCorrection := goodIn_ca (goodIn_r _ [391, 8, 9, 392, 393, 394, 13, 395, 15, 16, 17, 18, 19, 20, 396, 397, 398, 24, 399, 33, 44, 45, 46, 47, 48, 49, 50, 400, 219, 220, 221, 222, 223, 401, 402, 403, 404, 405, 406, 407, 408, 27, 409, 410, 411, 412, 40, 41, 42, 43, 28, 26, 413, 414, 415, 99, 416, 102, 104, 336, 445, 446, 447, 448, 449, 450, 451, 452, 453, 454, 455, 463, 464, 465, 466, 456, 457, 458, 459, 460, 461, 462] rfl (by decide +kernel)) (goodIn_sub (fun _ h => List.mem_cons_of_mem _ (List.mem_append_left _ (List.mem_append_left _ (List.mem_append_right _ h)))) (by decide +kernel))
set_option maxRecDepth 20000 in
theorem gL_hands_L_tryBestCorrection : GoodIn wsL_hands (va_wsS RL 208 yL_tryBestCorrection wsL_tryBestCorrection) := goodIn_app (goodIn_of _ (by decide +kernel)) ggL_hands_L_tryBestCorrection
set_option maxRecDepth 20000 in
theorem ggL_hands_L_size : GoodIn wsL_hands wsL_size := goodIn_r _ [213] rfl (by decide +kernel)
set_option maxRecDepth 20000 in
theorem gL_hands_L_size : GoodIn wsL_hands (va_wsS RL 131 yL_size wsL_size) := goodIn_app (goodIn_of _ (by decide +kernel)) ggL_hands_L_size
set_option maxRecDepth 20000 in
theorem ggL_hands_L_nears : GoodIn wsL_hands wsL_nears := goodIn_ca (goodIn_ca (goodIn_ca (goodIn_r _ [419, 367, 368, 6, 369, 8, 248, 9, 3, 370, 371, 372, 13, 373, 138, 15, 195, 374, 16, 17, 18, 19, 20, 355, 356, 357, 358, 253, 254, 359, 360, 361, 24, 362, 33, 44, 45, 46, 47, 48, 49, 50, 140, 141, 142, 143, 144, 145, 146, 147, 148, 149, 150, 151, 88, 89, 90, 26, 27, 36, 91, 92, 93, 94, 95, 55, 96, 97, 98, 99, 100, 101, 102, 103, 104, 105, 106, 107, 108, 109, 110, 111, 112, 113, 114, 115, 116, 117, 118, 119, 120, 121, 122, 123, 124, 125, 126, 127, 128, 129, 64, 130, 66, 67, 68, 420, 421, 422, 423, 424, 425, 426, 427, 314, 87, 428, 429, 430, 431, 432, 320, 321, 322, 323, 324, 325, 326, 223, 156, 157, 158, 159, 160, 161, 162, 163, 39, 37, 164, 165, 166, 167, 168, 169, 170, 171, 172, 173, 174, 175, 176, 177, 178, 179, 180, 327, 328, 329, 330, 331, 316, 317, 318, 332, 333, 334, 335, 336, 337, 338, 339, 340, 341, 342, 343, 344, 21, 22, 23, 25, 28, 29, 30, 31, 32, 34, 35, 38, 40, 41, 42, 43, 51, 52, 53, 54, 56, 57, 58, 59, 60, 61, 62, 63, 65, 211, 212, 213, 245, 246, 247, 72, 73, 249, 250, 251, 252, 78, 80, 79, 81, 82, 83, 84, 85, 86, 255, 256, 257, 258, 445, 446, 447, 448, 449, 450, 451, 452, 453, 454, 455, 456, 457, 458, 459, 460, 461, 462, 463, 464, 465, 466, 478, 479, 467, 468, 469, 470, 471, 472, 473, 474, 475, 476, 477] rfl (by decide +kernel)) (goodIn_sub (fun _ h => List.mem_cons_of_mem _ (List.mem_append_left _ (List.mem_append_left _ (List.mem_append_right _ h)))) (by decide +kernel))) (goodIn_sub (fun _ h => List.mem_cons_of_mem _ (List.mem_append_right _ h)) (by decide +kernel))) (goodIn_sub (fun _ h => List.mem_cons_of_mem _ (List.mem_append_left _ (List.mem_append_right _ h))) (by decide +kernel))
set_option maxRecDepth 20000 in
theorem gL_hands_L_nears : GoodIn wsL_hands (va_wsS RL 237 yL_nears wsL_nears) := goodIn_app (goodIn_of _ (by decide +kernel)) ggL_hands_L_nears
set_option maxRecDepth 20000 in
theorem ggL_hands_L_tryUndo : GoodIn wsL_hands wsL_tryUndo := goodIn_ca (goodIn_r _ [435, 248, 3, 436, 437, 438, 13, 439, 253, 254, 138, 440, 15, 441, 442, 443, 143, 444, 145, 146, 151, 88, 89, 24, 90, 26, 27, 33, 36, 91, 92, 93, 94, 95, 55, 96, 97, 98, 99, 100, 101, 102, 103, 104, 105, 106, 107, 108, 109, 110, 47, 111, 112, 113, 49, 50, 114, 115, 116, 117, 118, 119, 120, 121, 122, 123, 124, 125, 126, 127, 128, 129, 64, 130, 66, 67, 68, 445, 446, 447, 448, 449, 478, 479, 450, 451, 452, 453, 454, 455, 456, 457, 458, 459, 460, 461, 462, 463, 464, 465, 466, 467, 468, 469, 470, 471, 472, 473, 474, 475] rfl (by decide +kernel)) (goodIn_sub (fun _ h => List.mem_cons_of_mem _ (List.mem_append_right _ h)) (by decide +kernel))
set_option maxRecDepth 20000 in
theorem gL_hands_L_tryUndo : GoodIn wsL_hands (va_wsS RL 152 yL_tryUndo wsL_tryUndo) := goodIn_app (goodIn_of _ (by decide +kernel)) ggL_hands_L_tryUndo
theorem dL_hands_0 : decode cL_hands 0 = .ok (.aload_n 0, 1) := by decide +kernel
theorem dL_hands_1 : decode cL_hands 1 = .ok (.iconst 0, 1) := by decide +kernel
theorem dL_hands_2 : decode cL_hands 2 = .ok (.invokestatic 143, 3) := by decide +kernel
theorem dL_hands_5 : decode cL_hands 5 = .ok (.istore_n 2, 1) := by decide +kernel
theorem dL_hands_6 : decode cL_hands 6 = .ok (.aload_n 0, 1) := by decide +kernel
theorem dL_hands_7 : decode cL_hands 7 = .ok (.bipush 9, 2) := by decide +kernel
theorem dL_hands_9 : decode cL_hands 9 = .ok (.invokestatic 143, 3) := by decide +kernel
theorem dL_hands_12 : decode cL_hands 12 = .ok (.istore_n 3, 1) := by decide +kernel
theorem dL_hands_13 : decode cL_hands 13 = .ok (.aload_n 0, 1) := by decide +kernel
theorem dL_hands_14 : decode cL_hands 14 = .ok (.bipush 8, 2) := by decide +kernel
theorem dL_hands_16 : decode cL_hands 16 = .ok (.invokestatic 143, 3) := by decide +kernel
theorem dL_hands_19 : decode cL_hands 19 = .ok (.istore 4, 2) := by decide +kernel
theorem dL_hands_21 : decode cL_hands 21 = .ok (.aload_n 0, 1) := by decide +kernel
theorem dL_hands_22 : decode cL_hands 22 = .ok (.iconst 1, 1) := by decide +kernel
theorem dL_hands_23 : decode cL_hands 23 = .ok (.invokestatic 143, 3) := by decide +kernel
theorem dL_hands_26 : decode cL_hands 26 = .ok (.istore 5, 2) := by decide +kernel
theorem dL_hands_28 : decode cL_hands 28 = .ok (.aload_n 0, 1) := by decide +kernel
theorem dL_hands_29 : decode cL_hands 29 = .ok (.bipush 13, 2) := by decide +kernel
theorem dL_hands_31 : decode cL_hands 31 = .ok (.invokestatic 143, 3) := by decide +kernel
theorem dL_hands_34 : decode cL_hands 34 = .ok (.istore 6, 2) := by decide +kernel
theorem dL_hands_36 : decode cL_hands 36 = .ok (.aload_n 0, 1) := by decide +kernel
theorem dL_hands_37 : decode cL_hands 37 = .ok (.bipush 12, 2) := by decide +kernel
theorem dL_hands_39 : decode cL_hands 39 = .ok (.invokestatic 143, 3) := by decide +kernel
theorem dL_hands_42 : decode cL_hands 42 = .ok (.istore 7, 2) := by decide +kernel
theorem dL_hands_44 : decode cL_hands 44 = .ok (.aload_n 0, 1) := by decide +kernel
theorem dL_hands_45 : decode cL_hands 45 = .ok (.bipush 10, 2) := by decide +kernel
theorem dL_hands_47 : decode cL_hands 47 = .ok (.invokestatic 143, 3) := by decide +kernel
theorem dL_hands_50 : decode cL_hands 50 = .ok (.istore 8, 2) := by decide +kernel
theorem dL_hands_52 : decode cL_hands 52 = .ok (.aload_n 0, 1) := by decide +kernel
theorem dL_hands_53 : decode cL_hands 53 = .ok (.bipush 11, 2) := by decide +kernel
theorem dL_hands_55 : decode cL_hands 55 = .ok (.invokestatic 143, 3) := by decide +kernel
theorem dL_hands_58 : decode cL_hands 58 = .ok (.istore 9, 2) := by decide +kernel
theorem dL_hands_60 : decode cL_hands 60 = .ok (.aload_n 0, 1) := by decide +kernel
theorem dL_hands_61 : decode cL_hands 61 = .ok (.bipush 14, 2) := by decide +kernel
theorem dL_hands_63 : decode cL_hands 63 = .ok (.invokestatic 143, 3) := by decide +kernel
theorem dL_hands_66 : decode cL_hands 66 = .ok (.istore 10, 2) := by decide +kernel
theorem dL_hands_68 : decode cL_hands 68 = .ok (.aload_n 0, 1) := by decide +kernel
theorem dL_hands_69 : decode cL_hands 69 = .ok (.iconst 0, 1) := by decide +kernel
theorem dL_hands_70 : decode cL_hands 70 = .ok (.invokestatic 221, 3) := by decide +kernel
theorem dL_hands_73 : decode cL_hands 73 = .ok (.iload_n 2, 1) := by decide +kernel
theorem dL_hands_74 : decode cL_hands 74 = .ok (.if_icmp .ne 69, 3) := by decide +kernel
theorem dL_hands_77 : decode cL_hands 77 = .ok (.aload_n 0, 1) := by decide +kernel
theorem dL_hands_78 : decode cL_hands 78 = .ok (.bipush 6, 2) := by decide +kernel
theorem dL_hands_80 : decode cL_hands 80 = .ok (.iload_n 1, 1) := by decide +kernel
theorem dL_hands_81 : decode cL_hands 81 = .ok (.iconst 4, 1) := by decide +kernel
theorem dL_hands_82 : decode cL_hands 82 = .ok (.irem, 1) := by decide +kernel
theorem dL_hands_83 : decode cL_hands 83 = .ok (.iadd, 1) := by decide +kernel
theorem dL_hands_84 : decode cL_hands 84 = .ok (.invokestatic 171, 3) := by decide +kernel
theorem dL_hands_87 : decode cL_hands 87 = .ok (.ifCond .ne 56, 3) := by decide +kernel
theorem dL_hands_90 : decode cL_hands 90 = .ok (.aload_n 0, 1) := by decide +kernel
theorem dL_hands_91 : decode cL_hands 91 = .ok (.bipush 13, 2) := by decide +kernel
theorem dL_hands_93 : decode cL_hands 93 = .ok (.invokestatic 143, 3) := by decide +kernel
theorem dL_hands_96 : decode cL_hands 96 = .ok (.ifCond .ne 47, 3) := by decide +kernel
theorem dL_hands_99 : decode cL_hands 99 = .ok (.aload_n 0, 1) := by decide +kernel
theorem dL_hands_100 : decode cL_hands 100 = .ok (.bipush 12, 2) := by decide +kernel
theorem dL_hands_102 : decode cL_hands 102 = .ok (.invokestatic 143, 3) := by decide +kernel
theorem dL_hands_105 : decode cL_hands 105 = .ok (.iload 7, 2) := by decide +kernel
theorem dL_hands_107 : decode cL_hands 107 = .ok (.iload 6, 2) := by decide +kernel
theorem dL_hands_109 : decode cL_hands 109 = .ok (.iadd, 1) := by decide +kernel
theorem dL_hands_110 : decode cL_hands 110 = .ok (.if_icmp .ne 33, 3) := by decide +kernel
theorem dL_hands_113 : decode cL_hands 113 = .ok (.aload_n 0, 1) := by decide +kernel
theorem dL_hands_114 : decode cL_hands 114 = .ok (.iconst 1, 1) := by decide +kernel
theorem dL_hands_115 : decode cL_hands 115 = .ok (.invokestatic 143, 3) := by decide +kernel
theorem dL_hands_118 : decode cL_hands 118 = .ok (.iload 5, 2) := by decide +kernel
theorem dL_hands_120 : decode cL_hands 120 = .ok (.if_icmp .ne 23, 3) := by decide +kernel
theorem dL_hands_123 : decode cL_hands 123 = .ok (.aload_n 0, 1) := by decide +kernel
theorem dL_hands_124 : decode cL_hands 124 = .ok (.invokestatic 233, 3) := by decide +kernel
theorem dL_hands_127 : decode cL_hands 127 = .ok (.ifCond .eq 16, 3) := by decide +kernel
theorem dL_hands_130 : decode cL_hands 130 = .ok (.aload_n 0, 1) := by decide +kernel
theorem dL_hands_131 : decode cL_hands 131 = .ok (.iconst 0, 1) := by decide +kernel
theorem dL_hands_132 : decode cL_hands 132 = .ok (.invokestatic 155, 3) := by decide +kernel
theorem dL_hands_135 : decode cL_hands 135 = .ok (.iload_n 2, 1) := by decide +kernel
theorem dL_hands_136 : decode cL_hands 136 = .ok (.if_icmp .ne 7, 3) := by decide +kernel
theorem dL_hands_139 : decode cL_hands 139 = .ok (.iconst 1, 1) := by decide +kernel
theorem dL_hands_140 : decode cL_hands 140 = .ok (.goto 4, 3) := by decide +kernel
theorem dL_hands_143 : decode cL_hands 143 = .ok (.iconst 0, 1) := by decide +kernel
theorem dL_hands_144 : decode cL_hands 144 = .ok (.istore 11, 2) := by decide +kernel
theorem dL_hands_146 : decode cL_hands 146 = .ok (.iload_n 1, 1) := by decide +kernel
theorem dL_hands_147 : decode cL_hands 147 = .ok (.iconst 4, 1) := by decide +kernel
theorem dL_hands_148 : decode cL_hands 148 = .ok (.idiv, 1) := by decide +kernel
theorem dL_hands_149 : decode cL_hands 149 = .ok (.bipush 6, 2) := by decide +kernel
theorem dL_hands_151 : decode cL_hands 151 = .ok (.irem, 1) := by decide +kernel
theorem dL_hands_152 : decode cL_hands 152 = .ok (.istore 12, 2) := by decide +kernel
theorem dL_hands_154 : decode cL_hands 154 = .ok (.iload 4, 2) := by decide +kernel
theorem dL_hands_156 : decode cL_hands 156 = .ok (.ifCond .ne 7, 3) := by decide +kernel
theorem dL_hands_159 : decode cL_hands 159 = .ok (.iconst 3, 1) := by decide +kernel
theorem dL_hands_160 : decode cL_hands 160 = .ok (.goto 14, 3) := by decide +kernel
theorem dL_hands_163 : decode cL_hands 163 = .ok (.iload 12, 2) := by decide +kernel
theorem dL_hands_165 : decode cL_hands 165 = .ok (.iconst 2, 1) := by decide +kernel
theorem dL_hands_166 : decode cL_hands 166 = .ok (.if_icmp .le 7, 3) := by decide +kernel
theorem dL_hands_169 : decode cL_hands 169 = .ok (.iconst 1, 1) := by decide +kernel
theorem dL_hands_170 : decode cL_hands 170 = .ok (.goto 4, 3) := by decide +kernel
theorem dL_hands_173 : decode cL_hands 173 = .ok (.iconst 2, 1) := by decide +kernel
theorem dL_hands_174 : decode cL_hands 174 = .ok (.istore 13, 2) := by decide +kernel
theorem dL_hands_176 : decode cL_hands 176 = .ok (.iload 11, 2) := by decide +kernel
theorem dL_hands_178 : decode cL_hands 178 = .ok (.ifCond .eq 164, 3) := by decide +kernel
theorem dL_hands_181 : decode cL_hands 181 = .ok (.aload_n 0, 1) := by decide +kernel
theorem dL_hands_182 : decode cL_hands 182 = .ok (.iload 12, 2) := by decide +kernel
theorem dL_hands_184 : decode cL_hands 184 = .ok (.invokestatic 171, 3) := by decide +kernel
theorem dL_hands_187 : decode cL_hands 187 = .ok (.iload 13, 2) := by decide +kernel
theorem dL_hands_189 : decode cL_hands 189 = .ok (.if_icmp .ne 153, 3) := by decide +kernel
theorem dL_hands_192 : decode cL_hands 192 = .ok (.aload_n 0, 1) := by decide +kernel
theorem dL_hands_193 : decode cL_hands 193 = .ok (.bipush 14, 2) := by decide +kernel
theorem dL_hands_195 : decode cL_hands 195 = .ok (.invokestatic 143, 3) := by decide +kernel
theorem dL_hands_198 : decode cL_hands 198 = .ok (.iload 10, 2) := by decide +kernel
theorem dL_hands_200 : decode cL_hands 200 = .ok (.iload 13, 2) := by decide +kernel
theorem dL_hands_202 : decode cL_hands 202 = .ok (.iconst 3, 1) := by decide +kernel
theorem dL_hands_203 : decode cL_hands 203 = .ok (.if_icmp .ne 12, 3) := by decide +kernel
theorem dL_hands_206 : decode cL_hands 206 = .ok (.iload_n 3, 1) := by decide +kernel
theorem dL_hands_207 : decode cL_hands 207 = .ok (.iconst 3, 1) := by decide +kernel
theorem dL_hands_208 : decode cL_hands 208 = .ok (.if_icmp .eq 7, 3) := by decide +kernel
theorem dL_hands_211 : decode cL_hands 211 = .ok (.iconst 1, 1) := by decide +kernel
theorem dL_hands_212 : decode cL_hands 212 = .ok (.goto 4, 3) := by decide +kernel
theorem dL_hands_215 : decode cL_hands 215 = .ok (.iconst 0, 1) := by decide +kernel
theorem dL_hands_216 : decode cL_hands 216 = .ok (.iadd, 1) := by decide +kernel
theorem dL_hands_217 : decode cL_hands 217 = .ok (.if_icmp .ne 125, 3) := by decide +kernel
theorem dL_hands_220 : decode cL_hands 220 = .ok (.aload_n 0, 1) := by decide +kernel
theorem dL_hands_221 : decode cL_hands 221 = .ok (.bipush 13, 2) := by decide +kernel
theorem dL_hands_223 : decode cL_hands 223 = .ok (.invokestatic 143, 3) := by decide +kernel
theorem dL_hands_226 : decode cL_hands 226 = .ok (.iload 13, 2) := by decide +kernel
theorem dL_hands_228 : decode cL_hands 228 = .ok (.iconst 3, 1) := by decide +kernel
theorem dL_hands_229 : decode cL_hands 229 = .ok (.if_icmp .ne 7, 3) := by decide +kernel
theorem dL_hands_232 : decode cL_hands 232 = .ok (.iconst 0, 1) := by decide +kernel
theorem dL_hands_233 : decode cL_hands 233 = .ok (.goto 5, 3) := by decide +kernel
theorem dL_hands_236 : decode cL_hands 236 = .ok (.iload 6, 2) := by decide +kernel
theorem dL_hands_238 : decode cL_hands 238 = .ok (.if_icmp .ne 104, 3) := by decide +kernel
theorem dL_hands_241 : decode cL_hands 241 = .ok (.aload_n 0, 1) := by decide +kernel
theorem dL_hands_242 : decode cL_hands 242 = .ok (.invokestatic 233, 3) := by decide +kernel
theorem dL_hands_245 : decode cL_hands 245 = .ok (.ifCond .eq 97, 3) := by decide +kernel
theorem dL_hands_248 : decode cL_hands 248 = .ok (.aload_n 0, 1) := by decide +kernel
theorem dL_hands_249 : decode cL_hands 249 = .ok (.iconst 0, 1) := by decide +kernel
theorem dL_hands_250 : decode cL_hands 250 = .ok (.invokestatic 196, 3) := by decide +kernel
theorem dL_hands_253 : decode cL_hands 253 = .ok (.iconst 3, 1) := by decide +kernel
theorem dL_hands_254 : decode cL_hands 254 = .ok (.if_icmp .ne 88, 3) := by decide +kernel
theorem dL_hands_257 : decode cL_hands 257 = .ok (.aload_n 0, 1) := by decide +kernel
theorem dL_hands_258 : decode cL_hands 258 = .ok (.iconst 1, 1) := by decide +kernel
theorem dL_hands_259 : decode cL_hands 259 = .ok (.invokestatic 143, 3) := by decide +kernel
theorem dL_hands_262 : decode cL_hands 262 = .ok (.ifCond .ne 80, 3) := by decide +kernel
theorem dL_hands_265 : decode cL_hands 265 = .ok (.aload_n 0, 1) := by decide +kernel
theorem dL_hands_266 : decode cL_hands 266 = .ok (.bipush 14, 2) := by decide +kernel
theorem dL_hands_268 : decode cL_hands 268 = .ok (.invokestatic 143, 3) := by decide +kernel
theorem dL_hands_271 : decode cL_hands 271 = .ok (.iload 10, 2) := by decide +kernel
theorem dL_hands_273 : decode cL_hands 273 = .ok (.iload_n 3, 1) := by decide +kernel
theorem dL_hands_274 : decode cL_hands 274 = .ok (.iconst 3, 1) := by decide +kernel
theorem dL_hands_275 : decode cL_hands 275 = .ok (.if_icmp .ne 7, 3) := by decide +kernel
theorem dL_hands_278 : decode cL_hands 278 = .ok (.iconst 0, 1) := by decide +kernel
theorem dL_hands_279 : decode cL_hands 279 = .ok (.goto 4, 3) := by decide +kernel
theorem dL_hands_282 : decode cL_hands 282 = .ok (.iconst 1, 1) := by decide +kernel
theorem dL_hands_283 : decode cL_hands 283 = .ok (.iadd, 1) := by decide +kernel
theorem dL_hands_284 : decode cL_hands 284 = .ok (.if_icmp .ne 58, 3) := by decide +kernel
theorem dL_hands_287 : decode cL_hands 287 = .ok (.aload_n 0, 1) := by decide +kernel
theorem dL_hands_288 : decode cL_hands 288 = .ok (.invokestatic 233, 3) := by decide +kernel
theorem dL_hands_291 : decode cL_hands 291 = .ok (.ifCond .eq 51, 3) := by decide +kernel
theorem dL_hands_294 : decode cL_hands 294 = .ok (.aload_n 0, 1) := by decide +kernel
theorem dL_hands_295 : decode cL_hands 295 = .ok (.bipush 50, 2) := by decide +kernel
theorem dL_hands_297 : decode cL_hands 297 = .ok (.invokestatic 196, 3) := by decide +kernel
theorem dL_hands_300 : decode cL_hands 300 = .ok (.iload 12, 2) := by decide +kernel
theorem dL_hands_302 : decode cL_hands 302 = .ok (.iconst 2, 1) := by decide +kernel
theorem dL_hands_303 : decode cL_hands 303 = .ok (.if_icmp .le 7, 3) := by decide +kernel
theorem dL_hands_306 : decode cL_hands 306 = .ok (.iconst 1, 1) := by decide +kernel
theorem dL_hands_307 : decode cL_hands 307 = .ok (.goto 4, 3) := by decide +kernel
theorem dL_hands_310 : decode cL_hands 310 = .ok (.iconst 2, 1) := by decide +kernel
theorem dL_hands_311 : decode cL_hands 311 = .ok (.if_icmp .ne 31, 3) := by decide +kernel
theorem dL_hands_314 : decode cL_hands 314 = .ok (.aload_n 0, 1) := by decide +kernel
theorem dL_hands_315 : decode cL_hands 315 = .ok (.iconst 1, 1) := by decide +kernel
theorem dL_hands_316 : decode cL_hands 316 = .ok (.invokestatic 143, 3) := by decide +kernel
theorem dL_hands_319 : decode cL_hands 319 = .ok (.ifCond .ne 23, 3) := by decide +kernel
theorem dL_hands_322 : decode cL_hands 322 = .ok (.aload_n 0, 1) := by decide +kernel
theorem dL_hands_323 : decode cL_hands 323 = .ok (.invokestatic 233, 3) := by decide +kernel
theorem dL_hands_326 : decode cL_hands 326 = .ok (.ifCond .eq 16, 3) := by decide +kernel
theorem dL_hands_329 : decode cL_hands 329 = .ok (.aload_n 0, 1) := by decide +kernel
theorem dL_hands_330 : decode cL_hands 330 = .ok (.iconst 0, 1) := by decide +kernel
theorem dL_hands_331 : decode cL_hands 331 = .ok (.invokestatic 155, 3) := by decide +kernel
theorem dL_hands_334 : decode cL_hands 334 = .ok (.iload_n 2, 1) := by decide +kernel
theorem dL_hands_335 : decode cL_hands 335 = .ok (.if_icmp .ne 7, 3) := by decide +kernel
theorem dL_hands_338 : decode cL_hands 338 = .ok (.iconst 1, 1) := by decide +kernel
theorem dL_hands_339 : decode cL_hands 339 = .ok (.goto 4, 3) := by decide +kernel
theorem dL_hands_342 : decode cL_hands 342 = .ok (.iconst 0, 1) := by decide +kernel
theorem dL_hands_343 : decode cL_hands 343 = .ok (.istore 11, 2) := by decide +kernel
theorem dL_hands_345 : decode cL_hands 345 = .ok (.iload_n 1, 1) := by decide +kernel
theorem dL_hands_346 : decode cL_hands 346 = .ok (.iconst 3, 1) := by decide +kernel
theorem dL_hands_347 : decode cL_hands 347 = .ok (.irem, 1) := by decide +kernel
theorem dL_hands_348 : decode cL_hands 348 = .ok (.istore 14, 2) := by decide +kernel
theorem dL_hands_350 : decode cL_hands 350 = .ok (.aload_n 0, 1) := by decide +kernel
theorem dL_hands_351 : decode cL_hands 351 = .ok (.iload 14, 2) := by decide +kernel
theorem dL_hands_353 : decode cL_hands 353 = .ok (.invokestatic 149, 3) := by decide +kernel
theorem dL_hands_356 : decode cL_hands 356 = .ok (.istore 15, 2) := by decide +kernel
theorem dL_hands_358 : decode cL_hands 358 = .ok (.iload 15, 2) := by decide +kernel
theorem dL_hands_360 : decode cL_hands 360 = .ok (.iconst 1, 1) := by decide +kernel
theorem dL_hands_361 : decode cL_hands 361 = .ok (.if_icmp .ne 12, 3) := by decide +kernel
theorem dL_hands_364 : decode cL_hands 364 = .ok (.iload_n 3, 1) := by decide +kernel
theorem dL_hands_365 : decode cL_hands 365 = .ok (.iconst 3, 1) := by decide +kernel
theorem dL_hands_366 : decode cL_hands 366 = .ok (.if_icmp .eq 7, 3) := by decide +kernel
theorem dL_hands_369 : decode cL_hands 369 = .ok (.iconst 1, 1) := by decide +kernel
theorem dL_hands_370 : decode cL_hands 370 = .ok (.goto 4, 3) := by decide +kernel
theorem dL_hands_373 : decode cL_hands 373 = .ok (.iconst 0, 1) := by decide +kernel
theorem dL_hands_374 : decode cL_hands 374 = .ok (.istore 16, 2) := by decide +kernel
theorem dL_hands_376 : decode cL_hands 376 = .ok (.aload_n 0, 1) := by decide +kernel
theorem dL_hands_377 : decode cL_hands 377 = .ok (.iload_n 1, 1) := by decide +kernel
theorem dL_hands_378 : decode cL_hands 378 = .ok (.bipush 8, 2) := by decide +kernel
theorem dL_hands_380 : decode cL_hands 380 = .ok (.irem, 1) := by decide +kernel
theorem dL_hands_381 : decode cL_hands 381 = .ok (.invokestatic 146, 3) := by decide +kernel
theorem dL_hands_384 : decode cL_hands 384 = .ok (.istore 17, 2) := by decide +kernel
theorem dL_hands_386 : decode cL_hands 386 = .ok (.iload 11, 2) := by decide +kernel
theorem dL_hands_388 : decode cL_hands 388 = .ok (.ifCond .eq 144, 3) := by decide +kernel
theorem dL_hands_391 : decode cL_hands 391 = .ok (.aload_n 0, 1) := by decide +kernel
theorem dL_hands_392 : decode cL_hands 392 = .ok (.iload 14, 2) := by decide +kernel
theorem dL_hands_394 : decode cL_hands 394 = .ok (.invokestatic 190, 3) := by decide +kernel
theorem dL_hands_397 : decode cL_hands 397 = .ok (.iload 16, 2) := by decide +kernel
theorem dL_hands_399 : decode cL_hands 399 = .ok (.ifCond .eq 17, 3) := by decide +kernel
theorem dL_hands_402 : decode cL_hands 402 = .ok (.iload 8, 2) := by decide +kernel
theorem dL_hands_404 : decode cL_hands 404 = .ok (.bipush 6, 2) := by decide +kernel
theorem dL_hands_406 : decode cL_hands 406 = .ok (.if_icmp .ge 10, 3) := by decide +kernel
theorem dL_hands_409 : decode cL_hands 409 = .ok (.iload 8, 2) := by decide +kernel
theorem dL_hands_411 : decode cL_hands 411 = .ok (.iconst 1, 1) := by decide +kernel
theorem dL_hands_412 : decode cL_hands 412 = .ok (.iadd, 1) := by decide +kernel
theorem dL_hands_413 : decode cL_hands 413 = .ok (.goto 5, 3) := by decide +kernel
theorem dL_hands_416 : decode cL_hands 416 = .ok (.iload 8, 2) := by decide +kernel
theorem dL_hands_418 : decode cL_hands 418 = .ok (.if_icmp .ne 114, 3) := by decide +kernel
theorem dL_hands_421 : decode cL_hands 421 = .ok (.aload_n 0, 1) := by decide +kernel
theorem dL_hands_422 : decode cL_hands 422 = .ok (.bipush 11, 2) := by decide +kernel
theorem dL_hands_424 : decode cL_hands 424 = .ok (.invokestatic 143, 3) := by decide +kernel
theorem dL_hands_427 : decode cL_hands 427 = .ok (.iload 9, 2) := by decide +kernel
theorem dL_hands_429 : decode cL_hands 429 = .ok (.iload 16, 2) := by decide +kernel
theorem dL_hands_431 : decode cL_hands 431 = .ok (.ifCond .eq 7, 3) := by decide +kernel
theorem dL_hands_434 : decode cL_hands 434 = .ok (.iconst 1, 1) := by decide +kernel
theorem dL_hands_435 : decode cL_hands 435 = .ok (.goto 4, 3) := by decide +kernel
theorem dL_hands_438 : decode cL_hands 438 = .ok (.iconst 0, 1) := by decide +kernel
theorem dL_hands_439 : decode cL_hands 439 = .ok (.iadd, 1) := by decide +kernel
theorem dL_hands_440 : decode cL_hands 440 = .ok (.if_icmp .ne 92, 3) := by decide +kernel
theorem dL_hands_443 : decode cL_hands 443 = .ok (.aload_n 0, 1) := by decide +kernel
theorem dL_hands_444 : decode cL_hands 444 = .ok (.iload_n 1, 1) := by decide +kernel
theorem dL_hands_445 : decode cL_hands 445 = .ok (.bipush 8, 2) := by decide +kernel
theorem dL_hands_447 : decode cL_hands 447 = .ok (.irem, 1) := by decide +kernel
theorem dL_hands_448 : decode cL_hands 448 = .ok (.invokestatic 146, 3) := by decide +kernel
theorem dL_hands_451 : decode cL_hands 451 = .ok (.iload 16, 2) := by decide +kernel
theorem dL_hands_453 : decode cL_hands 453 = .ok (.ifCond .eq 7, 3) := by decide +kernel
theorem dL_hands_456 : decode cL_hands 456 = .ok (.iconst 0, 1) := by decide +kernel
theorem dL_hands_457 : decode cL_hands 457 = .ok (.goto 5, 3) := by decide +kernel
theorem dL_hands_460 : decode cL_hands 460 = .ok (.iload 17, 2) := by decide +kernel
theorem dL_hands_462 : decode cL_hands 462 = .ok (.if_icmp .ne 70, 3) := by decide +kernel
theorem dL_hands_465 : decode cL_hands 465 = .ok (.iload 16, 2) := by decide +kernel
theorem dL_hands_467 : decode cL_hands 467 = .ok (.ifCond .eq 45, 3) := by decide +kernel
theorem dL_hands_470 : decode cL_hands 470 = .ok (.iload 8, 2) := by decide +kernel
theorem dL_hands_472 : decode cL_hands 472 = .ok (.bipush 6, 2) := by decide +kernel
theorem dL_hands_474 : decode cL_hands 474 = .ok (.if_icmp .eq 38, 3) := by decide +kernel
theorem dL_hands_477 : decode cL_hands 477 = .ok (.aload_n 0, 1) := by decide +kernel
theorem dL_hands_478 : decode cL_hands 478 = .ok (.iload 8, 2) := by decide +kernel
theorem dL_hands_480 : decode cL_hands 480 = .ok (.iconst 0, 1) := by decide +kernel
theorem dL_hands_481 : decode cL_hands 481 = .ok (.invokestatic 165, 3) := by decide +kernel
theorem dL_hands_484 : decode cL_hands 484 = .ok (.iload 14, 2) := by decide +kernel
theorem dL_hands_486 : decode cL_hands 486 = .ok (.if_icmp .ne 46, 3) := by decide +kernel
theorem dL_hands_489 : decode cL_hands 489 = .ok (.aload_n 0, 1) := by decide +kernel
theorem dL_hands_490 : decode cL_hands 490 = .ok (.iload 8, 2) := by decide +kernel
theorem dL_hands_492 : decode cL_hands 492 = .ok (.iconst 1, 1) := by decide +kernel
theorem dL_hands_493 : decode cL_hands 493 = .ok (.invokestatic 165, 3) := by decide +kernel
theorem dL_hands_496 : decode cL_hands 496 = .ok (.iload 5, 2) := by decide +kernel
theorem dL_hands_498 : decode cL_hands 498 = .ok (.if_icmp .ne 34, 3) := by decide +kernel
theorem dL_hands_501 : decode cL_hands 501 = .ok (.aload_n 0, 1) := by decide +kernel
theorem dL_hands_502 : decode cL_hands 502 = .ok (.iload 8, 2) := by decide +kernel
theorem dL_hands_504 : decode cL_hands 504 = .ok (.iconst 2, 1) := by decide +kernel
theorem dL_hands_505 : decode cL_hands 505 = .ok (.invokestatic 165, 3) := by decide +kernel
theorem dL_hands_508 : decode cL_hands 508 = .ok (.iload_n 3, 1) := by decide +kernel
theorem dL_hands_509 : decode cL_hands 509 = .ok (.if_icmp .ne 23, 3) := by decide +kernel
theorem dL_hands_512 : decode cL_hands 512 = .ok (.aload_n 0, 1) := by decide +kernel
theorem dL_hands_513 : decode cL_hands 513 = .ok (.invokestatic 233, 3) := by decide +kernel
theorem dL_hands_516 : decode cL_hands 516 = .ok (.ifCond .eq 16, 3) := by decide +kernel
theorem dL_hands_519 : decode cL_hands 519 = .ok (.aload_n 0, 1) := by decide +kernel
theorem dL_hands_520 : decode cL_hands 520 = .ok (.iconst 0, 1) := by decide +kernel
theorem dL_hands_521 : decode cL_hands 521 = .ok (.invokestatic 155, 3) := by decide +kernel
theorem dL_hands_524 : decode cL_hands 524 = .ok (.iload_n 2, 1) := by decide +kernel
theorem dL_hands_525 : decode cL_hands 525 = .ok (.if_icmp .ne 7, 3) := by decide +kernel
theorem dL_hands_528 : decode cL_hands 528 = .ok (.iconst 1, 1) := by decide +kernel
theorem dL_hands_529 : decode cL_hands 529 = .ok (.goto 4, 3) := by decide +kernel
theorem dL_hands_532 : decode cL_hands 532 = .ok (.iconst 0, 1) := by decide +kernel
theorem dL_hands_533 : decode cL_hands 533 = .ok (.istore 11, 2) := by decide +kernel
theorem dL_hands_535 : decode cL_hands 535 = .ok (.iload_n 1, 1) := by decide +kernel
theorem dL_hands_536 : decode cL_hands 536 = .ok (.bipush 8, 2) := by decide +kernel
theorem dL_hands_538 : decode cL_hands 538 = .ok (.idiv, 1) := by decide +kernel
theorem dL_hands_539 : decode cL_hands 539 = .ok (.iconst 4, 1) := by decide +kernel
theorem dL_hands_540 : decode cL_hands 540 = .ok (.irem, 1) := by decide +kernel
theorem dL_hands_541 : decode cL_hands 541 = .ok (.istore 18, 2) := by decide +kernel
theorem dL_hands_543 : decode cL_hands 543 = .ok (.iload_n 1, 1) := by decide +kernel
theorem dL_hands_544 : decode cL_hands 544 = .ok (.bipush 32, 2) := by decide +kernel
theorem dL_hands_546 : decode cL_hands 546 = .ok (.idiv, 1) := by decide +kernel
theorem dL_hands_547 : decode cL_hands 547 = .ok (.sipush 1440, 3) := by decide +kernel
theorem dL_hands_550 : decode cL_hands 550 = .ok (.irem, 1) := by decide +kernel
theorem dL_hands_551 : decode cL_hands 551 = .ok (.istore 19, 2) := by decide +kernel
theorem dL_hands_553 : decode cL_hands 553 = .ok (.aload_n 0, 1) := by decide +kernel
theorem dL_hands_554 : decode cL_hands 554 = .ok (.iload 18, 2) := by decide +kernel
theorem dL_hands_556 : decode cL_hands 556 = .ok (.iconst 0, 1) := by decide +kernel
theorem dL_hands_557 : decode cL_hands 557 = .ok (.invokestatic 161, 3) := by decide +kernel
theorem dL_hands_560 : decode cL_hands 560 = .ok (.istore 20, 2) := by decide +kernel
theorem dL_hands_562 : decode cL_hands 562 = .ok (.iload 11, 2) := by decide +kernel
theorem dL_hands_564 : decode cL_hands 564 = .ok (.ifCond .eq 95, 3) := by decide +kernel
theorem dL_hands_567 : decode cL_hands 567 = .ok (.aload_n 0, 1) := by decide +kernel
theorem dL_hands_568 : decode cL_hands 568 = .ok (.iload 18, 2) := by decide +kernel
theorem dL_hands_570 : decode cL_hands 570 = .ok (.iload 19, 2) := by decide +kernel
theorem dL_hands_572 : decode cL_hands 572 = .ok (.invokestatic 193, 3) := by decide +kernel
theorem dL_hands_575 : decode cL_hands 575 = .ok (.iload 20, 2) := by decide +kernel
theorem dL_hands_577 : decode cL_hands 577 = .ok (.if_icmp .ne 82, 3) := by decide +kernel
theorem dL_hands_580 : decode cL_hands 580 = .ok (.aload_n 0, 1) := by decide +kernel
theorem dL_hands_581 : decode cL_hands 581 = .ok (.iload 18, 2) := by decide +kernel
theorem dL_hands_583 : decode cL_hands 583 = .ok (.iconst 0, 1) := by decide +kernel
theorem dL_hands_584 : decode cL_hands 584 = .ok (.invokestatic 161, 3) := by decide +kernel
theorem dL_hands_587 : decode cL_hands 587 = .ok (.iload 19, 2) := by decide +kernel
theorem dL_hands_589 : decode cL_hands 589 = .ok (.if_icmp .ne 70, 3) := by decide +kernel
theorem dL_hands_592 : decode cL_hands 592 = .ok (.aload_n 0, 1) := by decide +kernel
theorem dL_hands_593 : decode cL_hands 593 = .ok (.iload 18, 2) := by decide +kernel
theorem dL_hands_595 : decode cL_hands 595 = .ok (.iconst 1, 1) := by decide +kernel
theorem dL_hands_596 : decode cL_hands 596 = .ok (.invokestatic 161, 3) := by decide +kernel
theorem dL_hands_599 : decode cL_hands 599 = .ok (.ifCond .ne 60, 3) := by decide +kernel
theorem dL_hands_602 : decode cL_hands 602 = .ok (.aload_n 0, 1) := by decide +kernel
theorem dL_hands_603 : decode cL_hands 603 = .ok (.iload 18, 2) := by decide +kernel
theorem dL_hands_605 : decode cL_hands 605 = .ok (.sipush 1440, 3) := by decide +kernel
theorem dL_hands_608 : decode cL_hands 608 = .ok (.invokestatic 193, 3) := by decide +kernel
theorem dL_hands_611 : decode cL_hands 611 = .ok (.iload 19, 2) := by decide +kernel
theorem dL_hands_613 : decode cL_hands 613 = .ok (.if_icmp .ne 46, 3) := by decide +kernel
theorem dL_hands_616 : decode cL_hands 616 = .ok (.aload_n 0, 1) := by decide +kernel
theorem dL_hands_617 : decode cL_hands 617 = .ok (.iload 18, 2) := by decide +kernel
theorem dL_hands_619 : decode cL_hands 619 = .ok (.iconst 0, 1) := by decide +kernel
theorem dL_hands_620 : decode cL_hands 620 = .ok (.invokestatic 161, 3) := by decide +kernel
theorem dL_hands_623 : decode cL_hands 623 = .ok (.ldc 138, 2) := by decide +kernel
theorem dL_hands_625 : decode cL_hands 625 = .ok (.if_icmp .ne 34, 3) := by decide +kernel
theorem dL_hands_628 : decode cL_hands 628 = .ok (.aload_n 0, 1) := by decide +kernel
theorem dL_hands_629 : decode cL_hands 629 = .ok (.iload 18, 2) := by decide +kernel
theorem dL_hands_631 : decode cL_hands 631 = .ok (.invokestatic 205, 3) := by decide +kernel
theorem dL_hands_634 : decode cL_hands 634 = .ok (.ldc 138, 2) := by decide +kernel
theorem dL_hands_636 : decode cL_hands 636 = .ok (.if_icmp .ne 23, 3) := by decide +kernel
theorem dL_hands_639 : decode cL_hands 639 = .ok (.aload_n 0, 1) := by decide +kernel
theorem dL_hands_640 : decode cL_hands 640 = .ok (.invokestatic 233, 3) := by decide +kernel
theorem dL_hands_643 : decode cL_hands 643 = .ok (.ifCond .eq 16, 3) := by decide +kernel
theorem dL_hands_646 : decode cL_hands 646 = .ok (.aload_n 0, 1) := by decide +kernel
theorem dL_hands_647 : decode cL_hands 647 = .ok (.iconst 0, 1) := by decide +kernel
theorem dL_hands_648 : decode cL_hands 648 = .ok (.invokestatic 155, 3) := by decide +kernel
theorem dL_hands_651 : decode cL_hands 651 = .ok (.iload_n 2, 1) := by decide +kernel
theorem dL_hands_652 : decode cL_hands 652 = .ok (.if_icmp .ne 7, 3) := by decide +kernel
theorem dL_hands_655 : decode cL_hands 655 = .ok (.iconst 1, 1) := by decide +kernel
theorem dL_hands_656 : decode cL_hands 656 = .ok (.goto 4, 3) := by decide +kernel
theorem dL_hands_659 : decode cL_hands 659 = .ok (.iconst 0, 1) := by decide +kernel
theorem dL_hands_660 : decode cL_hands 660 = .ok (.istore 11, 2) := by decide +kernel
theorem dL_hands_662 : decode cL_hands 662 = .ok (.iload_n 3, 1) := by decide +kernel
theorem dL_hands_663 : decode cL_hands 663 = .ok (.ifCond .ne 305, 3) := by decide +kernel
theorem dL_hands_666 : decode cL_hands 666 = .ok (.iload 11, 2) := by decide +kernel
theorem dL_hands_668 : decode cL_hands 668 = .ok (.ifCond .eq 300, 3) := by decide +kernel
theorem dL_hands_671 : decode cL_hands 671 = .ok (.iload_n 1, 1) := by decide +kernel
theorem dL_hands_672 : decode cL_hands 672 = .ok (.ldc 177, 2) := by decide +kernel
theorem dL_hands_674 : decode cL_hands 674 = .ok (.irem, 1) := by decide +kernel
theorem dL_hands_675 : decode cL_hands 675 = .ok (.istore 21, 2) := by decide +kernel
theorem dL_hands_677 : decode cL_hands 677 = .ok (.iload_n 1, 1) := by decide +kernel
theorem dL_hands_678 : decode cL_hands 678 = .ok (.bipush 16, 2) := by decide +kernel
theorem dL_hands_680 : decode cL_hands 680 = .ok (.idiv, 1) := by decide +kernel
theorem dL_hands_681 : decode cL_hands 681 = .ok (.sipush 1001, 3) := by decide +kernel
theorem dL_hands_684 : decode cL_hands 684 = .ok (.irem, 1) := by decide +kernel
theorem dL_hands_685 : decode cL_hands 685 = .ok (.sipush 500, 3) := by decide +kernel
theorem dL_hands_688 : decode cL_hands 688 = .ok (.isub, 1) := by decide +kernel
theorem dL_hands_689 : decode cL_hands 689 = .ok (.istore 22, 2) := by decide +kernel
theorem dL_hands_691 : decode cL_hands 691 = .ok (.aload_n 0, 1) := by decide +kernel
theorem dL_hands_692 : decode cL_hands 692 = .ok (.iconst 4, 1) := by decide +kernel
theorem dL_hands_693 : decode cL_hands 693 = .ok (.invokestatic 143, 3) := by decide +kernel
theorem dL_hands_696 : decode cL_hands 696 = .ok (.istore 23, 2) := by decide +kernel
theorem dL_hands_698 : decode cL_hands 698 = .ok (.aload_n 0, 1) := by decide +kernel
theorem dL_hands_699 : decode cL_hands 699 = .ok (.iload 21, 2) := by decide +kernel
theorem dL_hands_701 : decode cL_hands 701 = .ok (.invokestatic 174, 3) := by decide +kernel
theorem dL_hands_704 : decode cL_hands 704 = .ok (.iload 5, 2) := by decide +kernel
theorem dL_hands_706 : decode cL_hands 706 = .ok (.if_icmp .ne 141, 3) := by decide +kernel
theorem dL_hands_709 : decode cL_hands 709 = .ok (.aload_n 0, 1) := by decide +kernel
theorem dL_hands_710 : decode cL_hands 710 = .ok (.iconst 1, 1) := by decide +kernel
theorem dL_hands_711 : decode cL_hands 711 = .ok (.invokestatic 143, 3) := by decide +kernel
theorem dL_hands_714 : decode cL_hands 714 = .ok (.iload 21, 2) := by decide +kernel
theorem dL_hands_716 : decode cL_hands 716 = .ok (.if_icmp .ne 131, 3) := by decide +kernel
theorem dL_hands_719 : decode cL_hands 719 = .ok (.aload_n 0, 1) := by decide +kernel
theorem dL_hands_720 : decode cL_hands 720 = .ok (.iconst 2, 1) := by decide +kernel
theorem dL_hands_721 : decode cL_hands 721 = .ok (.invokestatic 143, 3) := by decide +kernel
theorem dL_hands_724 : decode cL_hands 724 = .ok (.ifCond .ne 123, 3) := by decide +kernel
theorem dL_hands_727 : decode cL_hands 727 = .ok (.aload_n 0, 1) := by decide +kernel
theorem dL_hands_728 : decode cL_hands 728 = .ok (.bipush 6, 2) := by decide +kernel
theorem dL_hands_730 : decode cL_hands 730 = .ok (.invokestatic 143, 3) := by decide +kernel
theorem dL_hands_733 : decode cL_hands 733 = .ok (.iconst 1, 1) := by decide +kernel
theorem dL_hands_734 : decode cL_hands 734 = .ok (.if_icmp .ne 113, 3) := by decide +kernel
theorem dL_hands_737 : decode cL_hands 737 = .ok (.aload_n 0, 1) := by decide +kernel
theorem dL_hands_738 : decode cL_hands 738 = .ok (.iload 22, 2) := by decide +kernel
theorem dL_hands_740 : decode cL_hands 740 = .ok (.invokestatic 178, 3) := by decide +kernel
theorem dL_hands_743 : decode cL_hands 743 = .ok (.iload 23, 2) := by decide +kernel
theorem dL_hands_745 : decode cL_hands 745 = .ok (.if_icmp .ne 102, 3) := by decide +kernel
theorem dL_hands_748 : decode cL_hands 748 = .ok (.aload_n 0, 1) := by decide +kernel
theorem dL_hands_749 : decode cL_hands 749 = .ok (.iconst 4, 1) := by decide +kernel
theorem dL_hands_750 : decode cL_hands 750 = .ok (.invokestatic 143, 3) := by decide +kernel
theorem dL_hands_753 : decode cL_hands 753 = .ok (.iload 22, 2) := by decide +kernel
theorem dL_hands_755 : decode cL_hands 755 = .ok (.if_icmp .ne 92, 3) := by decide +kernel
theorem dL_hands_758 : decode cL_hands 758 = .ok (.aload_n 0, 1) := by decide +kernel
theorem dL_hands_759 : decode cL_hands 759 = .ok (.iload_n 1, 1) := by decide +kernel
theorem dL_hands_760 : decode cL_hands 760 = .ok (.bipush 8, 2) := by decide +kernel
theorem dL_hands_762 : decode cL_hands 762 = .ok (.irem, 1) := by decide +kernel
theorem dL_hands_763 : decode cL_hands 763 = .ok (.iload_n 1, 1) := by decide +kernel
theorem dL_hands_764 : decode cL_hands 764 = .ok (.bipush 64, 2) := by decide +kernel
theorem dL_hands_766 : decode cL_hands 766 = .ok (.idiv, 1) := by decide +kernel
theorem dL_hands_767 : decode cL_hands 767 = .ok (.sipush 256, 3) := by decide +kernel
theorem dL_hands_770 : decode cL_hands 770 = .ok (.irem, 1) := by decide +kernel
theorem dL_hands_771 : decode cL_hands 771 = .ok (.invokestatic 184, 3) := by decide +kernel
theorem dL_hands_774 : decode cL_hands 774 = .ok (.iload 17, 2) := by decide +kernel
theorem dL_hands_776 : decode cL_hands 776 = .ok (.if_icmp .ne 71, 3) := by decide +kernel
theorem dL_hands_779 : decode cL_hands 779 = .ok (.aload_n 0, 1) := by decide +kernel
theorem dL_hands_780 : decode cL_hands 780 = .ok (.iload_n 1, 1) := by decide +kernel
theorem dL_hands_781 : decode cL_hands 781 = .ok (.bipush 8, 2) := by decide +kernel
theorem dL_hands_783 : decode cL_hands 783 = .ok (.irem, 1) := by decide +kernel
theorem dL_hands_784 : decode cL_hands 784 = .ok (.invokestatic 146, 3) := by decide +kernel
theorem dL_hands_787 : decode cL_hands 787 = .ok (.iload_n 1, 1) := by decide +kernel
theorem dL_hands_788 : decode cL_hands 788 = .ok (.bipush 64, 2) := by decide +kernel
theorem dL_hands_790 : decode cL_hands 790 = .ok (.idiv, 1) := by decide +kernel
theorem dL_hands_791 : decode cL_hands 791 = .ok (.sipush 256, 3) := by decide +kernel
theorem dL_hands_794 : decode cL_hands 794 = .ok (.irem, 1) := by decide +kernel
theorem dL_hands_795 : decode cL_hands 795 = .ok (.if_icmp .ne 52, 3) := by decide +kernel
theorem dL_hands_798 : decode cL_hands 798 = .ok (.aload_n 0, 1) := by decide +kernel
theorem dL_hands_799 : decode cL_hands 799 = .ok (.invokestatic 199, 3) := by decide +kernel
theorem dL_hands_802 : decode cL_hands 802 = .ok (.iload 8, 2) := by decide +kernel
theorem dL_hands_804 : decode cL_hands 804 = .ok (.if_icmp .ne 43, 3) := by decide +kernel
theorem dL_hands_807 : decode cL_hands 807 = .ok (.aload_n 0, 1) := by decide +kernel
theorem dL_hands_808 : decode cL_hands 808 = .ok (.bipush 10, 2) := by decide +kernel
theorem dL_hands_810 : decode cL_hands 810 = .ok (.invokestatic 143, 3) := by decide +kernel
theorem dL_hands_813 : decode cL_hands 813 = .ok (.ifCond .ne 34, 3) := by decide +kernel
theorem dL_hands_816 : decode cL_hands 816 = .ok (.aload_n 0, 1) := by decide +kernel
theorem dL_hands_817 : decode cL_hands 817 = .ok (.bipush 11, 2) := by decide +kernel
theorem dL_hands_819 : decode cL_hands 819 = .ok (.invokestatic 143, 3) := by decide +kernel
theorem dL_hands_822 : decode cL_hands 822 = .ok (.iload 9, 2) := by decide +kernel
theorem dL_hands_824 : decode cL_hands 824 = .ok (.if_icmp .ne 23, 3) := by decide +kernel
theorem dL_hands_827 : decode cL_hands 827 = .ok (.aload_n 0, 1) := by decide +kernel
theorem dL_hands_828 : decode cL_hands 828 = .ok (.invokestatic 233, 3) := by decide +kernel
theorem dL_hands_831 : decode cL_hands 831 = .ok (.ifCond .eq 16, 3) := by decide +kernel
theorem dL_hands_834 : decode cL_hands 834 = .ok (.aload_n 0, 1) := by decide +kernel
theorem dL_hands_835 : decode cL_hands 835 = .ok (.iconst 0, 1) := by decide +kernel
theorem dL_hands_836 : decode cL_hands 836 = .ok (.invokestatic 155, 3) := by decide +kernel
theorem dL_hands_839 : decode cL_hands 839 = .ok (.iload_n 2, 1) := by decide +kernel
theorem dL_hands_840 : decode cL_hands 840 = .ok (.if_icmp .ne 7, 3) := by decide +kernel
theorem dL_hands_843 : decode cL_hands 843 = .ok (.iconst 1, 1) := by decide +kernel
theorem dL_hands_844 : decode cL_hands 844 = .ok (.goto 4, 3) := by decide +kernel
theorem dL_hands_847 : decode cL_hands 847 = .ok (.iconst 0, 1) := by decide +kernel
theorem dL_hands_848 : decode cL_hands 848 = .ok (.istore 11, 2) := by decide +kernel
theorem dL_hands_850 : decode cL_hands 850 = .ok (.iconst 1, 1) := by decide +kernel
theorem dL_hands_851 : decode cL_hands 851 = .ok (.iload_n 1, 1) := by decide +kernel
theorem dL_hands_852 : decode cL_hands 852 = .ok (.sipush 128, 3) := by decide +kernel
theorem dL_hands_855 : decode cL_hands 855 = .ok (.idiv, 1) := by decide +kernel
theorem dL_hands_856 : decode cL_hands 856 = .ok (.bipush 30, 2) := by decide +kernel
theorem dL_hands_858 : decode cL_hands 858 = .ok (.irem, 1) := by decide +kernel
theorem dL_hands_859 : decode cL_hands 859 = .ok (.iadd, 1) := by decide +kernel
theorem dL_hands_860 : decode cL_hands 860 = .ok (.istore 24, 2) := by decide +kernel
theorem dL_hands_862 : decode cL_hands 862 = .ok (.aload_n 0, 1) := by decide +kernel
theorem dL_hands_863 : decode cL_hands 863 = .ok (.iload 24, 2) := by decide +kernel
theorem dL_hands_865 : decode cL_hands 865 = .ok (.invokestatic 208, 3) := by decide +kernel
theorem dL_hands_868 : decode cL_hands 868 = .ok (.istore 25, 2) := by decide +kernel
theorem dL_hands_870 : decode cL_hands 870 = .ok (.iload 11, 2) := by decide +kernel
theorem dL_hands_872 : decode cL_hands 872 = .ok (.ifCond .eq 93, 3) := by decide +kernel
theorem dL_hands_875 : decode cL_hands 875 = .ok (.iload 25, 2) := by decide +kernel
theorem dL_hands_877 : decode cL_hands 877 = .ok (.invokestatic 131, 3) := by decide +kernel
theorem dL_hands_880 : decode cL_hands 880 = .ok (.sipush 500, 3) := by decide +kernel
theorem dL_hands_883 : decode cL_hands 883 = .ok (.if_icmp .gt 82, 3) := by decide +kernel
theorem dL_hands_886 : decode cL_hands 886 = .ok (.aload_n 0, 1) := by decide +kernel
theorem dL_hands_887 : decode cL_hands 887 = .ok (.iload 25, 2) := by decide +kernel
theorem dL_hands_889 : decode cL_hands 889 = .ok (.iload 24, 2) := by decide +kernel
theorem dL_hands_891 : decode cL_hands 891 = .ok (.iload_n 2, 1) := by decide +kernel
theorem dL_hands_892 : decode cL_hands 892 = .ok (.invokestatic 237, 3) := by decide +kernel
theorem dL_hands_895 : decode cL_hands 895 = .ok (.aload_n 0, 1) := by decide +kernel
theorem dL_hands_896 : decode cL_hands 896 = .ok (.iload 22, 2) := by decide +kernel
theorem dL_hands_898 : decode cL_hands 898 = .ok (.iload 24, 2) := by decide +kernel
theorem dL_hands_900 : decode cL_hands 900 = .ok (.iload_n 2, 1) := by decide +kernel
theorem dL_hands_901 : decode cL_hands 901 = .ok (.invokestatic 237, 3) := by decide +kernel
theorem dL_hands_904 : decode cL_hands 904 = .ok (.if_icmp .gt 61, 3) := by decide +kernel
theorem dL_hands_907 : decode cL_hands 907 = .ok (.aload_n 0, 1) := by decide +kernel
theorem dL_hands_908 : decode cL_hands 908 = .ok (.iload 25, 2) := by decide +kernel
theorem dL_hands_910 : decode cL_hands 910 = .ok (.iload 24, 2) := by decide +kernel
theorem dL_hands_912 : decode cL_hands 912 = .ok (.iload_n 2, 1) := by decide +kernel
theorem dL_hands_913 : decode cL_hands 913 = .ok (.invokestatic 237, 3) := by decide +kernel
theorem dL_hands_916 : decode cL_hands 916 = .ok (.aload_n 0, 1) := by decide +kernel
theorem dL_hands_917 : decode cL_hands 917 = .ok (.iload 22, 2) := by decide +kernel
theorem dL_hands_919 : decode cL_hands 919 = .ok (.iload 24, 2) := by decide +kernel
theorem dL_hands_921 : decode cL_hands 921 = .ok (.iload_n 2, 1) := by decide +kernel
theorem dL_hands_922 : decode cL_hands 922 = .ok (.invokestatic 237, 3) := by decide +kernel
theorem dL_hands_925 : decode cL_hands 925 = .ok (.if_icmp .lt 36, 3) := by decide +kernel
theorem dL_hands_928 : decode cL_hands 928 = .ok (.iload 25, 2) := by decide +kernel
theorem dL_hands_930 : decode cL_hands 930 = .ok (.invokestatic 131, 3) := by decide +kernel
theorem dL_hands_933 : decode cL_hands 933 = .ok (.iload 22, 2) := by decide +kernel
theorem dL_hands_935 : decode cL_hands 935 = .ok (.invokestatic 131, 3) := by decide +kernel
theorem dL_hands_938 : decode cL_hands 938 = .ok (.if_icmp .lt 23, 3) := by decide +kernel
theorem dL_hands_941 : decode cL_hands 941 = .ok (.iload 25, 2) := by decide +kernel
theorem dL_hands_943 : decode cL_hands 943 = .ok (.invokestatic 131, 3) := by decide +kernel
theorem dL_hands_946 : decode cL_hands 946 = .ok (.iload 22, 2) := by decide +kernel
theorem dL_hands_948 : decode cL_hands 948 = .ok (.invokestatic 131, 3) := by decide +kernel
theorem dL_hands_951 : decode cL_hands 951 = .ok (.if_icmp .ne 14, 3) := by decide +kernel
theorem dL_hands_954 : decode cL_hands 954 = .ok (.iload 25, 2) := by decide +kernel
theorem dL_hands_956 : decode cL_hands 956 = .ok (.iload 22, 2) := by decide +kernel
theorem dL_hands_958 : decode cL_hands 958 = .ok (.if_icmp .gt 7, 3) := by decide +kernel
theorem dL_hands_961 : decode cL_hands 961 = .ok (.iconst 1, 1) := by decide +kernel
theorem dL_hands_962 : decode cL_hands 962 = .ok (.goto 4, 3) := by decide +kernel
theorem dL_hands_965 : decode cL_hands 965 = .ok (.iconst 0, 1) := by decide +kernel
theorem dL_hands_966 : decode cL_hands 966 = .ok (.istore 11, 2) := by decide +kernel
theorem dL_hands_968 : decode cL_hands 968 = .ok (.iload 11, 2) := by decide +kernel
theorem dL_hands_970 : decode cL_hands 970 = .ok (.ifCond .eq 25, 3) := by decide +kernel
theorem dL_hands_973 : decode cL_hands 973 = .ok (.aload_n 0, 1) := by decide +kernel
theorem dL_hands_974 : decode cL_hands 974 = .ok (.iconst 0, 1) := by decide +kernel
theorem dL_hands_975 : decode cL_hands 975 = .ok (.invokestatic 155, 3) := by decide +kernel
theorem dL_hands_978 : decode cL_hands 978 = .ok (.iload_n 2, 1) := by decide +kernel
theorem dL_hands_979 : decode cL_hands 979 = .ok (.if_icmp .ne 16, 3) := by decide +kernel
theorem dL_hands_982 : decode cL_hands 982 = .ok (.aload_n 0, 1) := by decide +kernel
theorem dL_hands_983 : decode cL_hands 983 = .ok (.invokestatic 152, 3) := by decide +kernel
theorem dL_hands_986 : decode cL_hands 986 = .ok (.ldc 18, 2) := by decide +kernel
theorem dL_hands_988 : decode cL_hands 988 = .ok (.if_icmp .ne 7, 3) := by decide +kernel
theorem dL_hands_991 : decode cL_hands 991 = .ok (.iconst 1, 1) := by decide +kernel
theorem dL_hands_992 : decode cL_hands 992 = .ok (.goto 4, 3) := by decide +kernel
theorem dL_hands_995 : decode cL_hands 995 = .ok (.iconst 0, 1) := by decide +kernel
theorem dL_hands_996 : decode cL_hands 996 = .ok (.ireturn, 1) := by decide +kernel
set_option maxRecDepth 20000 in
theorem ggL_nears_L_tryCorrect : GoodIn wsL_nears wsL_tryCorrect := goodIn_ca (goodIn_ca (goodIn_r _ [4, 5, 6, 7, 8, 9, 10, 11, 12, 13, 14, 15, 16, 17, 18, 19, 20, 21, 22, 23, 24, 25, 26, 27, 28, 29, 30, 31, 32, 33, 34, 35, 36, 37, 38, 39, 40, 41, 42, 43, 44, 45, 46, 47, 48, 49, 50, 51, 52, 53, 54, 55, 56, 57, 58, 59, 60, 61, 62, 63, 64, 65, 66, 67, 68, 69, 70, 71, 72, 73, 74, 75, 76, 77, 78, 79, 80, 81, 82, 83, 84, 85, 86, 87, 88, 89, 90, 91, 92, 93, 94, 95, 96, 97, 98, 99, 100, 101, 102, 103, 104, 230, 231, 232, 233, 234, 235, 236, 237, 238, 239, 240, 241, 242, 243, 244, 245, 246, 247, 248, 249, 250, 251, 252, 253, 254, 255, 256, 257, 258, 259, 260, 261, 262] rfl (by decide +kernel)) (goodIn_sub (fun _ h => List.mem_cons_of_mem _ (List.mem_append_left _ (List.mem_append_left _ (List.mem_append_right _ h)))) (by decide +kernel))) (goodIn_sub (fun _ h => List.mem_cons_of_mem _ (List.mem_append_left _ (List.mem_append_right _ h))) (by decide +kernel))
set_option maxRecDepth 20000 in
theorem gL_nears_L_tryCorrect : GoodIn wsL_nears (va_wsS RL 178 yL_tryCorrect wsL_tryCorrect) := goodIn_app (goodIn_of _ (by decide +kernel)) ggL_nears_L_tryCorrect
set_option maxRecDepth 20000 in
theorem ggL_nears_L_tryAhead : GoodIn wsL_nears wsL_tryAhead := goodIn_ca (goodIn_r _ [107, 5, 7, 108, 109, 110, 12, 111, 112, 113, 15, 18, 19, 20, 21, 22, 114, 54, 55, 32, 56, 57, 58, 34, 59, 60, 61, 62, 63, 64, 65, 66, 67, 68, 69, 70, 71, 72, 73, 74, 75, 76, 77, 78, 79, 80, 38, 81, 82, 83, 40, 41, 84, 85, 86, 87, 88, 89, 90, 91, 92, 93, 94, 95, 96, 97, 98, 99, 100, 101, 102, 103, 104, 115, 116, 117, 118, 119, 120, 121, 122, 35, 36, 37, 39, 123, 124, 125, 126, 127, 128, 129, 130, 131, 132, 133, 134, 135, 136, 137, 138, 139, 140, 141, 142, 143, 144, 145, 146, 147, 148, 149, 150, 151, 152, 153, 154, 155, 156, 157, 158, 159, 160, 161, 162, 163, 164, 165, 166, 167, 168, 169, 170, 171, 172, 173, 174, 175, 176, 177, 178, 179, 180, 181, 182, 183, 184, 185, 186, 187, 188, 189, 190, 191, 192, 193, 194, 195, 196, 197, 198, 199, 200, 201, 202, 203, 204, 230, 231, 232, 233, 234, 235, 236, 237, 238, 239, 240, 241, 242, 243, 244, 245, 246, 247, 248, 249, 250, 251, 254, 255, 256, 257, 258, 259, 260, 261, 262] rfl (by decide +kernel)) (goodIn_sub (fun _ h => List.mem_cons_of_mem _ (List.mem_append_left _ (List.mem_append_left _ (List.mem_append_right _ h)))) (by decide +kernel))
set_option maxRecDepth 20000 in
theorem gL_nears_L_tryAhead : GoodIn wsL_nears (va_wsS RL 202 yL_tryAhead wsL_tryAhead) := goodIn_app (goodIn_of _ (by decide +kernel)) ggL_nears_L_tryAhead
set_option maxRecDepth 20000 in
theorem ggL_nears_L_size : GoodIn wsL_nears wsL_size := goodIn_r _ [207] rfl (by decide +kernel)
set_option maxRecDepth 20000 in
theorem gL_nears_L_size : GoodIn wsL_nears (va_wsS RL 131 yL_size wsL_size) := goodIn_app (goodIn_of _ (by decide +kernel)) ggL_nears_L_size
set_option maxRecDepth 20000 in
theorem ggL_nears_L_tryRestore : GoodIn wsL_nears wsL_tryRestore := goodIn_ca (goodIn_ca (goodIn_r _ [210, 211, 6, 212, 8, 213, 214, 215, 12, 216, 27, 28, 217, 218, 15, 219, 14, 220, 221, 222, 223, 224, 225, 114, 54, 55, 32, 56, 57, 58, 34, 59, 60, 61, 62, 63, 64, 65, 66, 67, 68, 69, 70, 71, 72, 73, 74, 75, 76, 77, 78, 79, 80, 38, 81, 82, 83, 40, 41, 84, 85, 86, 87, 88, 89, 90, 91, 92, 93, 94, 95, 96, 97, 98, 99, 100, 101, 102, 103, 104, 226, 227, 228, 45, 229, 47, 230, 231, 232, 233, 234, 263, 264, 235, 236, 237, 238, 239, 240, 241, 242, 243, 244, 245, 246, 247, 248, 249, 250, 251, 254, 255, 256, 257, 258, 259, 260, 261, 262, 252, 253] rfl (by decide +kernel)) (goodIn_sub (fun _ h => List.mem_cons_of_mem _ (List.mem_append_left _ (List.mem_append_right _ h))) (by decide +kernel))) (goodIn_sub (fun _ h => List.mem_cons_of_mem _ (List.mem_append_right _ h)) (by decide +kernel))
set_option maxRecDepth 20000 in
theorem gL_nears_L_tryRestore : GoodIn wsL_nears (va_wsS RL 155 yL_tryRestore wsL_tryRestore) := goodIn_app (goodIn_of _ (by decide +kernel)) ggL_nears_L_tryRestore
theorem dL_nears_0 : decode cL_nears 0 = .ok (.aload_n 0, 1) := by decide +kernel
theorem dL_nears_1 : decode cL_nears 1 = .ok (.iload_n 1, 1) := by decide +kernel
theorem dL_nears_2 : decode cL_nears 2 = .ok (.invokestatic 178, 3) := by decide +kernel
theorem dL_nears_5 : decode cL_nears 5 = .ok (.istore 4, 2) := by decide +kernel
theorem dL_nears_7 : decode cL_nears 7 = .ok (.aload_n 0, 1) := by decide +kernel
theorem dL_nears_8 : decode cL_nears 8 = .ok (.iload_n 2, 1) := by decide +kernel
theorem dL_nears_9 : decode cL_nears 9 = .ok (.iconst 2, 1) := by decide +kernel
theorem dL_nears_10 : decode cL_nears 10 = .ok (.invokestatic 202, 3) := by decide +kernel
theorem dL_nears_13 : decode cL_nears 13 = .ok (.invokestatic 131, 3) := by decide +kernel
theorem dL_nears_16 : decode cL_nears 16 = .ok (.istore 5, 2) := by decide +kernel
theorem dL_nears_18 : decode cL_nears 18 = .ok (.iload 4, 2) := by decide +kernel
theorem dL_nears_20 : decode cL_nears 20 = .ok (.sipush (-500), 3) := by decide +kernel
theorem dL_nears_23 : decode cL_nears 23 = .ok (.if_icmp .lt 17, 3) := by decide +kernel
theorem dL_nears_26 : decode cL_nears 26 = .ok (.aload_n 0, 1) := by decide +kernel
theorem dL_nears_27 : decode cL_nears 27 = .ok (.iconst 0, 1) := by decide +kernel
theorem dL_nears_28 : decode cL_nears 28 = .ok (.invokestatic 155, 3) := by decide +kernel
theorem dL_nears_31 : decode cL_nears 31 = .ok (.iload_n 3, 1) := by decide +kernel
theorem dL_nears_32 : decode cL_nears 32 = .ok (.if_icmp .ne 8, 3) := by decide +kernel
theorem dL_nears_35 : decode cL_nears 35 = .ok (.iload 5, 2) := by decide +kernel
theorem dL_nears_37 : decode cL_nears 37 = .ok (.goto 4, 3) := by decide +kernel
theorem dL_nears_40 : decode cL_nears 40 = .ok (.iconst (-1), 1) := by decide +kernel
theorem dL_nears_41 : decode cL_nears 41 = .ok (.ireturn, 1) := by decide +kernel
set_option maxRecDepth 20000 in
theorem ggL_scripts_L_tryAbout : GoodIn wsL_scripts wsL_tryAbout := goodIn_ca (goodIn_r _ [32, 33, 34, 35, 36, 37, 38, 39, 40, 41, 42, 43, 44, 45, 46, 47, 48, 49, 50, 51, 52, 53, 54, 55, 56, 57, 58, 59, 60, 61, 62, 63, 64, 65, 66, 67, 68, 69, 70, 71, 72, 73, 74, 75, 76, 77, 78, 79, 80, 81, 82, 83, 84, 85, 86, 87, 88, 89, 90, 91, 92, 93, 299, 300, 301, 302, 303, 304, 305, 306, 307, 308, 309, 310, 311, 312, 313, 314, 315, 316, 317, 318, 319, 320, 321, 322, 323, 324, 325, 326, 327, 328, 329] rfl (by decide +kernel)) (goodIn_sub (fun _ h => List.mem_cons_of_mem _ (List.mem_append_left _ (List.mem_append_right _ h))) (by decide +kernel))
set_option maxRecDepth 20000 in
theorem gL_scripts_L_tryAbout : GoodIn wsL_scripts (va_wsS RL 143 yL_tryAbout wsL_tryAbout) := goodIn_app (goodIn_of _ (by decide +kernel)) ggL_scripts_L_tryAbout
set_option maxRecDepth 20000 in
theorem ggL_scripts_L_tryRegister : GoodIn wsL_scripts wsL_tryRegister := goodIn_ca (goodIn_r _ [96, 97, 98, 99, 100, 101, 38, 102, 40, 103, 104, 105, 106, 107, 108, 299, 300, 301, 302, 303, 304, 305, 306, 307, 308, 309] rfl (by decide +kernel)) (goodIn_sub (fun _ h => List.mem_cons_of_mem _ (List.mem_append_right _ h)) (by decide +kernel))
set_option maxRecDepth 20000 in
theorem gL_scripts_L_tryRegister : GoodIn wsL_scripts (va_wsS RL 146 yL_tryRegister wsL_tryRegister) := goodIn_app (goodIn_of _ (by decide +kernel)) ggL_scripts_L_tryRegister
set_option maxRecDepth 20000 in
theorem ggL_scripts_L_trySimulate : GoodIn wsL_scripts wsL_trySimulate := goodIn_ca (goodIn_r _ [111, 33, 34, 112, 113, 114, 38, 115, 116, 40, 117, 118, 119, 120, 121, 122, 41, 42, 43, 44, 45, 123, 124, 125, 49, 126, 51, 52, 58, 61, 127, 128, 129, 130, 131, 80, 132, 133, 134, 135, 136, 137, 138, 139, 140, 141, 142, 143, 144, 145, 146, 72, 147, 148, 149, 74, 75, 150, 151, 152, 153, 154, 155, 156, 157, 158, 159, 160, 161, 162, 163, 164, 165, 89, 166, 91, 92, 93, 167, 168, 169, 170, 59, 69, 70, 71, 73, 171, 172, 173, 174, 175, 176, 177, 178, 64, 62, 179, 180, 181, 182, 183, 184, 185, 186, 187, 188, 189, 190, 191, 192, 193, 194, 195, 196, 197, 198, 199, 200, 53, 201, 202, 203, 204, 205, 206, 207, 208, 209, 210, 211, 212, 213, 214, 215, 216, 217, 218, 219, 220, 221, 222, 223, 224, 225, 226, 227, 228, 229, 230, 231, 232, 233, 234, 235, 236, 237, 238, 239, 299, 300, 301, 302, 303, 304, 305, 306, 307, 308, 309, 317, 318, 319, 320, 321, 322, 323, 324, 325, 326, 310, 311, 312, 313, 314, 315, 316, 327, 328, 329] rfl (by decide +kernel)) (goodIn_sub (fun _ h => List.mem_cons_of_mem _ (List.mem_append_left _ (List.mem_append_right _ h))) (by decide +kernel))
set_option maxRecDepth 20000 in
theorem gL_scripts_L_trySimulate : GoodIn wsL_scripts (va_wsS RL 217 yL_trySimulate wsL_trySimulate) := goodIn_app (goodIn_of _ (by decide +kernel)) ggL_scripts_L_trySimulate
set_option maxRecDepth 20000 in
theorem ggL_scripts_L_tryScript : GoodIn wsL_scripts wsL_tryScript := goodIn_ca (goodIn_r _ [242, 33, 34, 243, 244, 245, 38, 246, 44, 45, 116, 40, 247, 41, 42, 43, 248, 249, 250, 251, 252, 123, 124, 125, 49, 126, 51, 52, 58, 61, 127, 128, 129, 130, 131, 80, 132, 133, 134, 135, 136, 137, 138, 139, 140, 141, 142, 143, 144, 145, 146, 72, 147, 148, 149, 74, 75, 150, 151, 152, 153, 154, 155, 156, 157, 158, 159, 160, 161, 162, 163, 164, 165, 89, 166, 91, 92, 93, 253, 254, 255, 256, 257, 258, 259, 260, 261, 262, 263, 264, 206, 207, 208, 209, 210, 211, 212, 69, 70, 71, 73, 213, 214, 215, 216, 217, 171, 172, 173, 174, 175, 176, 177, 178, 64, 62, 179, 180, 181, 182, 183, 184, 185, 186, 187, 188, 189, 190, 191, 192, 193, 194, 195, 218, 219, 220, 221, 222, 223, 224, 225, 226, 227, 228, 229, 230, 231, 232, 233, 234, 235, 236, 237, 238, 265, 266, 267, 268, 168, 169, 170, 59, 269, 270, 271, 272, 273, 274, 275, 276, 277, 278, 279, 280, 281, 282, 283, 284, 285, 286, 287, 197, 198, 199, 200, 53, 201, 202, 203, 204, 288, 289, 290, 291, 292, 293, 294, 295, 296, 297, 298, 66, 67, 68, 299, 300, 301, 302, 303, 304, 305, 306, 307, 308, 309, 310, 311, 312, 313, 314, 315, 316, 317, 318, 319, 320, 321, 322, 323, 324, 325, 326, 327, 328, 329] rfl (by decide +kernel)) (goodIn_sub (fun _ h => List.mem_cons_of_mem _ (List.mem_append_left _ (List.mem_append_right _ h))) (by decide +kernel))
set_option maxRecDepth 20000 in
theorem gL_scripts_L_tryScript : GoodIn wsL_scripts (va_wsS RL 211 yL_tryScript wsL_tryScript) := goodIn_app (goodIn_of _ (by decide +kernel)) ggL_scripts_L_tryScript
theorem dL_scripts_0 : decode cL_scripts 0 = .ok (.aload_n 0, 1) := by decide +kernel
theorem dL_scripts_1 : decode cL_scripts 1 = .ok (.bipush 9, 2) := by decide +kernel
theorem dL_scripts_3 : decode cL_scripts 3 = .ok (.invokestatic 143, 3) := by decide +kernel
theorem dL_scripts_6 : decode cL_scripts 6 = .ok (.istore_n 2, 1) := by decide +kernel
theorem dL_scripts_7 : decode cL_scripts 7 = .ok (.aload_n 0, 1) := by decide +kernel
theorem dL_scripts_8 : decode cL_scripts 8 = .ok (.iconst 5, 1) := by decide +kernel
theorem dL_scripts_9 : decode cL_scripts 9 = .ok (.invokestatic 143, 3) := by decide +kernel
theorem dL_scripts_12 : decode cL_scripts 12 = .ok (.istore_n 3, 1) := by decide +kernel
theorem dL_scripts_13 : decode cL_scripts 13 = .ok (.iload_n 1, 1) := by decide +kernel
theorem dL_scripts_14 : decode cL_scripts 14 = .ok (.bipush 8, 2) := by decide +kernel
theorem dL_scripts_16 : decode cL_scripts 16 = .ok (.irem, 1) := by decide +kernel
theorem dL_scripts_17 : decode cL_scripts 17 = .ok (.istore 4, 2) := by decide +kernel
theorem dL_scripts_19 : decode cL_scripts 19 = .ok (.aload_n 0, 1) := by decide +kernel
theorem dL_scripts_20 : decode cL_scripts 20 = .ok (.iload 4, 2) := by decide +kernel
theorem dL_scripts_22 : decode cL_scripts 22 = .ok (.invokestatic 146, 3) := by decide +kernel
theorem dL_scripts_25 : decode cL_scripts 25 = .ok (.istore 5, 2) := by decide +kernel
theorem dL_scripts_27 : decode cL_scripts 27 = .ok (.aload_n 0, 1) := by decide +kernel
theorem dL_scripts_28 : decode cL_scripts 28 = .ok (.iload_n 1, 1) := by decide +kernel
theorem dL_scripts_29 : decode cL_scripts 29 = .ok (.i2l, 1) := by decide +kernel
theorem dL_scripts_30 : decode cL_scripts 30 = .ok (.ldc2_w 241, 3) := by decide +kernel
theorem dL_scripts_33 : decode cL_scripts 33 = .ok (.lmul, 1) := by decide +kernel
theorem dL_scripts_34 : decode cL_scripts 34 = .ok (.bipush 12, 2) := by decide +kernel
theorem dL_scripts_36 : decode cL_scripts 36 = .ok (.invokestatic 217, 3) := by decide +kernel
theorem dL_scripts_39 : decode cL_scripts 39 = .ok (.istore 6, 2) := by decide +kernel
theorem dL_scripts_41 : decode cL_scripts 41 = .ok (.aload_n 0, 1) := by decide +kernel
theorem dL_scripts_42 : decode cL_scripts 42 = .ok (.iconst 1, 1) := by decide +kernel
theorem dL_scripts_43 : decode cL_scripts 43 = .ok (.ldc2_w 243, 3) := by decide +kernel
theorem dL_scripts_46 : decode cL_scripts 46 = .ok (.iload_n 2, 1) := by decide +kernel
theorem dL_scripts_47 : decode cL_scripts 47 = .ok (.i2l, 1) := by decide +kernel
theorem dL_scripts_48 : decode cL_scripts 48 = .ok (.ladd, 1) := by decide +kernel
theorem dL_scripts_49 : decode cL_scripts 49 = .ok (.invokestatic 211, 3) := by decide +kernel
theorem dL_scripts_52 : decode cL_scripts 52 = .ok (.ldc 138, 2) := by decide +kernel
theorem dL_scripts_54 : decode cL_scripts 54 = .ok (.if_icmp .ne 315, 3) := by decide +kernel
theorem dL_scripts_57 : decode cL_scripts 57 = .ok (.aload_n 0, 1) := by decide +kernel
theorem dL_scripts_58 : decode cL_scripts 58 = .ok (.iconst 1, 1) := by decide +kernel
theorem dL_scripts_59 : decode cL_scripts 59 = .ok (.ldc2_w 245, 3) := by decide +kernel
theorem dL_scripts_62 : decode cL_scripts 62 = .ok (.invokestatic 211, 3) := by decide +kernel
theorem dL_scripts_65 : decode cL_scripts 65 = .ok (.ifCond .ne 304, 3) := by decide +kernel
theorem dL_scripts_68 : decode cL_scripts 68 = .ok (.aload_n 0, 1) := by decide +kernel
theorem dL_scripts_69 : decode cL_scripts 69 = .ok (.iconst 1, 1) := by decide +kernel
theorem dL_scripts_70 : decode cL_scripts 70 = .ok (.ldc2_w 247, 3) := by decide +kernel
theorem dL_scripts_73 : decode cL_scripts 73 = .ok (.ldc2_w 249, 3) := by decide +kernel
theorem dL_scripts_76 : decode cL_scripts 76 = .ok (.iload 4, 2) := by decide +kernel
theorem dL_scripts_78 : decode cL_scripts 78 = .ok (.i2l, 1) := by decide +kernel
theorem dL_scripts_79 : decode cL_scripts 79 = .ok (.lmul, 1) := by decide +kernel
theorem dL_scripts_80 : decode cL_scripts 80 = .ok (.ladd, 1) := by decide +kernel
theorem dL_scripts_81 : decode cL_scripts 81 = .ok (.iload 5, 2) := by decide +kernel
theorem dL_scripts_83 : decode cL_scripts 83 = .ok (.i2l, 1) := by decide +kernel
theorem dL_scripts_84 : decode cL_scripts 84 = .ok (.ladd, 1) := by decide +kernel
theorem dL_scripts_85 : decode cL_scripts 85 = .ok (.invokestatic 211, 3) := by decide +kernel
theorem dL_scripts_88 : decode cL_scripts 88 = .ok (.ldc 138, 2) := by decide +kernel
theorem dL_scripts_90 : decode cL_scripts 90 = .ok (.if_icmp .ne 279, 3) := by decide +kernel
theorem dL_scripts_93 : decode cL_scripts 93 = .ok (.aload_n 0, 1) := by decide +kernel
theorem dL_scripts_94 : decode cL_scripts 94 = .ok (.iconst 1, 1) := by decide +kernel
theorem dL_scripts_95 : decode cL_scripts 95 = .ok (.ldc2_w 247, 3) := by decide +kernel
theorem dL_scripts_98 : decode cL_scripts 98 = .ok (.ldc2_w 249, 3) := by decide +kernel
theorem dL_scripts_101 : decode cL_scripts 101 = .ok (.iload 4, 2) := by decide +kernel
theorem dL_scripts_103 : decode cL_scripts 103 = .ok (.i2l, 1) := by decide +kernel
theorem dL_scripts_104 : decode cL_scripts 104 = .ok (.lmul, 1) := by decide +kernel
theorem dL_scripts_105 : decode cL_scripts 105 = .ok (.ladd, 1) := by decide +kernel
theorem dL_scripts_106 : decode cL_scripts 106 = .ok (.iload 5, 2) := by decide +kernel
theorem dL_scripts_108 : decode cL_scripts 108 = .ok (.iconst 1, 1) := by decide +kernel
theorem dL_scripts_109 : decode cL_scripts 109 = .ok (.iadd, 1) := by decide +kernel
theorem dL_scripts_110 : decode cL_scripts 110 = .ok (.sipush 256, 3) := by decide +kernel
theorem dL_scripts_113 : decode cL_scripts 113 = .ok (.irem, 1) := by decide +kernel
theorem dL_scripts_114 : decode cL_scripts 114 = .ok (.i2l, 1) := by decide +kernel
theorem dL_scripts_115 : decode cL_scripts 115 = .ok (.ladd, 1) := by decide +kernel
theorem dL_scripts_116 : decode cL_scripts 116 = .ok (.invokestatic 211, 3) := by decide +kernel
theorem dL_scripts_119 : decode cL_scripts 119 = .ok (.ifCond .ne 250, 3) := by decide +kernel
theorem dL_scripts_122 : decode cL_scripts 122 = .ok (.aload_n 0, 1) := by decide +kernel
theorem dL_scripts_123 : decode cL_scripts 123 = .ok (.iconst 1, 1) := by decide +kernel
theorem dL_scripts_124 : decode cL_scripts 124 = .ok (.ldc2_w 251, 3) := by decide +kernel
theorem dL_scripts_127 : decode cL_scripts 127 = .ok (.invokestatic 211, 3) := by decide +kernel
theorem dL_scripts_130 : decode cL_scripts 130 = .ok (.ifCond .ne 239, 3) := by decide +kernel
theorem dL_scripts_133 : decode cL_scripts 133 = .ok (.aload_n 0, 1) := by decide +kernel
theorem dL_scripts_134 : decode cL_scripts 134 = .ok (.iconst 1, 1) := by decide +kernel
theorem dL_scripts_135 : decode cL_scripts 135 = .ok (.ldc2_w 253, 3) := by decide +kernel
theorem dL_scripts_138 : decode cL_scripts 138 = .ok (.invokestatic 211, 3) := by decide +kernel
theorem dL_scripts_141 : decode cL_scripts 141 = .ok (.ldc 138, 2) := by decide +kernel
theorem dL_scripts_143 : decode cL_scripts 143 = .ok (.if_icmp .ne 226, 3) := by decide +kernel
theorem dL_scripts_146 : decode cL_scripts 146 = .ok (.aload_n 0, 1) := by decide +kernel
theorem dL_scripts_147 : decode cL_scripts 147 = .ok (.iconst 1, 1) := by decide +kernel
theorem dL_scripts_148 : decode cL_scripts 148 = .ok (.ldc2_w 255, 3) := by decide +kernel
theorem dL_scripts_151 : decode cL_scripts 151 = .ok (.invokestatic 211, 3) := by decide +kernel
theorem dL_scripts_154 : decode cL_scripts 154 = .ok (.ifCond .ne 215, 3) := by decide +kernel
theorem dL_scripts_157 : decode cL_scripts 157 = .ok (.aload_n 0, 1) := by decide +kernel
theorem dL_scripts_158 : decode cL_scripts 158 = .ok (.iconst 1, 1) := by decide +kernel
theorem dL_scripts_159 : decode cL_scripts 159 = .ok (.ldc2_w 257, 3) := by decide +kernel
theorem dL_scripts_162 : decode cL_scripts 162 = .ok (.invokestatic 211, 3) := by decide +kernel
theorem dL_scripts_165 : decode cL_scripts 165 = .ok (.ifCond .ne 204, 3) := by decide +kernel
theorem dL_scripts_168 : decode cL_scripts 168 = .ok (.aload_n 0, 1) := by decide +kernel
theorem dL_scripts_169 : decode cL_scripts 169 = .ok (.iconst 2, 1) := by decide +kernel
theorem dL_scripts_170 : decode cL_scripts 170 = .ok (.ldc2_w 259, 3) := by decide +kernel
theorem dL_scripts_173 : decode cL_scripts 173 = .ok (.invokestatic 211, 3) := by decide +kernel
theorem dL_scripts_176 : decode cL_scripts 176 = .ok (.ldc 138, 2) := by decide +kernel
theorem dL_scripts_178 : decode cL_scripts 178 = .ok (.if_icmp .ne 191, 3) := by decide +kernel
theorem dL_scripts_181 : decode cL_scripts 181 = .ok (.aload_n 0, 1) := by decide +kernel
theorem dL_scripts_182 : decode cL_scripts 182 = .ok (.iconst 1, 1) := by decide +kernel
theorem dL_scripts_183 : decode cL_scripts 183 = .ok (.ldc2_w 261, 3) := by decide +kernel
theorem dL_scripts_186 : decode cL_scripts 186 = .ok (.invokestatic 211, 3) := by decide +kernel
theorem dL_scripts_189 : decode cL_scripts 189 = .ok (.iload_n 2, 1) := by decide +kernel
theorem dL_scripts_190 : decode cL_scripts 190 = .ok (.ifCond .ne 8, 3) := by decide +kernel
theorem dL_scripts_193 : decode cL_scripts 193 = .ok (.ldc 138, 2) := by decide +kernel
theorem dL_scripts_195 : decode cL_scripts 195 = .ok (.goto 4, 3) := by decide +kernel
theorem dL_scripts_198 : decode cL_scripts 198 = .ok (.iconst 0, 1) := by decide +kernel
theorem dL_scripts_199 : decode cL_scripts 199 = .ok (.if_icmp .ne 170, 3) := by decide +kernel
theorem dL_scripts_202 : decode cL_scripts 202 = .ok (.aload_n 0, 1) := by decide +kernel
theorem dL_scripts_203 : decode cL_scripts 203 = .ok (.iconst 1, 1) := by decide +kernel
theorem dL_scripts_204 : decode cL_scripts 204 = .ok (.ldc2_w 263, 3) := by decide +kernel
theorem dL_scripts_207 : decode cL_scripts 207 = .ok (.invokestatic 211, 3) := by decide +kernel
theorem dL_scripts_210 : decode cL_scripts 210 = .ok (.ifCond .ne 159, 3) := by decide +kernel
theorem dL_scripts_213 : decode cL_scripts 213 = .ok (.aload_n 0, 1) := by decide +kernel
theorem dL_scripts_214 : decode cL_scripts 214 = .ok (.iconst 1, 1) := by decide +kernel
theorem dL_scripts_215 : decode cL_scripts 215 = .ok (.ldc2_w 265, 3) := by decide +kernel
theorem dL_scripts_218 : decode cL_scripts 218 = .ok (.invokestatic 211, 3) := by decide +kernel
theorem dL_scripts_221 : decode cL_scripts 221 = .ok (.ifCond .ne 148, 3) := by decide +kernel
theorem dL_scripts_224 : decode cL_scripts 224 = .ok (.aload_n 0, 1) := by decide +kernel
theorem dL_scripts_225 : decode cL_scripts 225 = .ok (.iconst 1, 1) := by decide +kernel
theorem dL_scripts_226 : decode cL_scripts 226 = .ok (.ldc2_w 267, 3) := by decide +kernel
theorem dL_scripts_229 : decode cL_scripts 229 = .ok (.ldc2_w 249, 3) := by decide +kernel
theorem dL_scripts_232 : decode cL_scripts 232 = .ok (.iload 4, 2) := by decide +kernel
theorem dL_scripts_234 : decode cL_scripts 234 = .ok (.i2l, 1) := by decide +kernel
theorem dL_scripts_235 : decode cL_scripts 235 = .ok (.lmul, 1) := by decide +kernel
theorem dL_scripts_236 : decode cL_scripts 236 = .ok (.ladd, 1) := by decide +kernel
theorem dL_scripts_237 : decode cL_scripts 237 = .ok (.invokestatic 211, 3) := by decide +kernel
theorem dL_scripts_240 : decode cL_scripts 240 = .ok (.iload_n 2, 1) := by decide +kernel
theorem dL_scripts_241 : decode cL_scripts 241 = .ok (.ifCond .ne 8, 3) := by decide +kernel
theorem dL_scripts_244 : decode cL_scripts 244 = .ok (.ldc 138, 2) := by decide +kernel
theorem dL_scripts_246 : decode cL_scripts 246 = .ok (.goto 4, 3) := by decide +kernel
theorem dL_scripts_249 : decode cL_scripts 249 = .ok (.iconst 0, 1) := by decide +kernel
theorem dL_scripts_250 : decode cL_scripts 250 = .ok (.if_icmp .ne 119, 3) := by decide +kernel
theorem dL_scripts_253 : decode cL_scripts 253 = .ok (.aload_n 0, 1) := by decide +kernel
theorem dL_scripts_254 : decode cL_scripts 254 = .ok (.iconst 1, 1) := by decide +kernel
theorem dL_scripts_255 : decode cL_scripts 255 = .ok (.ldc2_w 269, 3) := by decide +kernel
theorem dL_scripts_258 : decode cL_scripts 258 = .ok (.invokestatic 211, 3) := by decide +kernel
theorem dL_scripts_261 : decode cL_scripts 261 = .ok (.ifCond .ne 108, 3) := by decide +kernel
theorem dL_scripts_264 : decode cL_scripts 264 = .ok (.aload_n 0, 1) := by decide +kernel
theorem dL_scripts_265 : decode cL_scripts 265 = .ok (.iconst 1, 1) := by decide +kernel
theorem dL_scripts_266 : decode cL_scripts 266 = .ok (.ldc2_w 271, 3) := by decide +kernel
theorem dL_scripts_269 : decode cL_scripts 269 = .ok (.invokestatic 211, 3) := by decide +kernel
theorem dL_scripts_272 : decode cL_scripts 272 = .ok (.ifCond .ne 97, 3) := by decide +kernel
theorem dL_scripts_275 : decode cL_scripts 275 = .ok (.aload_n 0, 1) := by decide +kernel
theorem dL_scripts_276 : decode cL_scripts 276 = .ok (.iconst 1, 1) := by decide +kernel
theorem dL_scripts_277 : decode cL_scripts 277 = .ok (.ldc2_w 273, 3) := by decide +kernel
theorem dL_scripts_280 : decode cL_scripts 280 = .ok (.invokestatic 211, 3) := by decide +kernel
theorem dL_scripts_283 : decode cL_scripts 283 = .ok (.ldc 138, 2) := by decide +kernel
theorem dL_scripts_285 : decode cL_scripts 285 = .ok (.if_icmp .ne 84, 3) := by decide +kernel
theorem dL_scripts_288 : decode cL_scripts 288 = .ok (.aload_n 0, 1) := by decide +kernel
theorem dL_scripts_289 : decode cL_scripts 289 = .ok (.iconst 1, 1) := by decide +kernel
theorem dL_scripts_290 : decode cL_scripts 290 = .ok (.ldc2_w 275, 3) := by decide +kernel
theorem dL_scripts_293 : decode cL_scripts 293 = .ok (.invokestatic 211, 3) := by decide +kernel
theorem dL_scripts_296 : decode cL_scripts 296 = .ok (.ifCond .ne 73, 3) := by decide +kernel
theorem dL_scripts_299 : decode cL_scripts 299 = .ok (.aload_n 0, 1) := by decide +kernel
theorem dL_scripts_300 : decode cL_scripts 300 = .ok (.iconst 1, 1) := by decide +kernel
theorem dL_scripts_301 : decode cL_scripts 301 = .ok (.ldc2_w 277, 3) := by decide +kernel
theorem dL_scripts_304 : decode cL_scripts 304 = .ok (.invokestatic 211, 3) := by decide +kernel
theorem dL_scripts_307 : decode cL_scripts 307 = .ok (.ldc 138, 2) := by decide +kernel
theorem dL_scripts_309 : decode cL_scripts 309 = .ok (.if_icmp .ne 60, 3) := by decide +kernel
theorem dL_scripts_312 : decode cL_scripts 312 = .ok (.aload_n 0, 1) := by decide +kernel
theorem dL_scripts_313 : decode cL_scripts 313 = .ok (.iconst 1, 1) := by decide +kernel
theorem dL_scripts_314 : decode cL_scripts 314 = .ok (.ldc2_w 279, 3) := by decide +kernel
theorem dL_scripts_317 : decode cL_scripts 317 = .ok (.invokestatic 211, 3) := by decide +kernel
theorem dL_scripts_320 : decode cL_scripts 320 = .ok (.ifCond .ne 49, 3) := by decide +kernel
theorem dL_scripts_323 : decode cL_scripts 323 = .ok (.aload_n 0, 1) := by decide +kernel
theorem dL_scripts_324 : decode cL_scripts 324 = .ok (.iconst 1, 1) := by decide +kernel
theorem dL_scripts_325 : decode cL_scripts 325 = .ok (.ldc2_w 281, 3) := by decide +kernel
theorem dL_scripts_328 : decode cL_scripts 328 = .ok (.invokestatic 211, 3) := by decide +kernel
theorem dL_scripts_331 : decode cL_scripts 331 = .ok (.ifCond .ne 38, 3) := by decide +kernel
theorem dL_scripts_334 : decode cL_scripts 334 = .ok (.aload_n 0, 1) := by decide +kernel
theorem dL_scripts_335 : decode cL_scripts 335 = .ok (.iconst 1, 1) := by decide +kernel
theorem dL_scripts_336 : decode cL_scripts 336 = .ok (.ldc2_w 283, 3) := by decide +kernel
theorem dL_scripts_339 : decode cL_scripts 339 = .ok (.invokestatic 211, 3) := by decide +kernel
theorem dL_scripts_342 : decode cL_scripts 342 = .ok (.ifCond .ne 27, 3) := by decide +kernel
theorem dL_scripts_345 : decode cL_scripts 345 = .ok (.aload_n 0, 1) := by decide +kernel
theorem dL_scripts_346 : decode cL_scripts 346 = .ok (.iconst 1, 1) := by decide +kernel
theorem dL_scripts_347 : decode cL_scripts 347 = .ok (.ldc2_w 285, 3) := by decide +kernel
theorem dL_scripts_350 : decode cL_scripts 350 = .ok (.invokestatic 211, 3) := by decide +kernel
theorem dL_scripts_353 : decode cL_scripts 353 = .ok (.ifCond .ne 16, 3) := by decide +kernel
theorem dL_scripts_356 : decode cL_scripts 356 = .ok (.aload_n 0, 1) := by decide +kernel
theorem dL_scripts_357 : decode cL_scripts 357 = .ok (.iconst 1, 1) := by decide +kernel
theorem dL_scripts_358 : decode cL_scripts 358 = .ok (.lconst 0, 1) := by decide +kernel
theorem dL_scripts_359 : decode cL_scripts 359 = .ok (.invokestatic 211, 3) := by decide +kernel
theorem dL_scripts_362 : decode cL_scripts 362 = .ok (.ifCond .ne 7, 3) := by decide +kernel
theorem dL_scripts_365 : decode cL_scripts 365 = .ok (.iconst 1, 1) := by decide +kernel
theorem dL_scripts_366 : decode cL_scripts 366 = .ok (.goto 4, 3) := by decide +kernel
theorem dL_scripts_369 : decode cL_scripts 369 = .ok (.iconst 0, 1) := by decide +kernel
theorem dL_scripts_370 : decode cL_scripts 370 = .ok (.istore 7, 2) := by decide +kernel
theorem dL_scripts_372 : decode cL_scripts 372 = .ok (.iload 7, 2) := by decide +kernel
theorem dL_scripts_374 : decode cL_scripts 374 = .ok (.ifCond .eq 151, 3) := by decide +kernel
theorem dL_scripts_377 : decode cL_scripts 377 = .ok (.iload 6, 2) := by decide +kernel
theorem dL_scripts_379 : decode cL_scripts 379 = .ok (.ifCond .lt 146, 3) := by decide +kernel
theorem dL_scripts_382 : decode cL_scripts 382 = .ok (.iload 6, 2) := by decide +kernel
theorem dL_scripts_384 : decode cL_scripts 384 = .ok (.aload_n 0, 1) := by decide +kernel
theorem dL_scripts_385 : decode cL_scripts 385 = .ok (.iload_n 1, 1) := by decide +kernel
theorem dL_scripts_386 : decode cL_scripts 386 = .ok (.i2l, 1) := by decide +kernel
theorem dL_scripts_387 : decode cL_scripts 387 = .ok (.ldc2_w 241, 3) := by decide +kernel
theorem dL_scripts_390 : decode cL_scripts 390 = .ok (.lmul, 1) := by decide +kernel
theorem dL_scripts_391 : decode cL_scripts 391 = .ok (.bipush 12, 2) := by decide +kernel
theorem dL_scripts_393 : decode cL_scripts 393 = .ok (.invokestatic 217, 3) := by decide +kernel
theorem dL_scripts_396 : decode cL_scripts 396 = .ok (.if_icmp .ne 129, 3) := by decide +kernel
theorem dL_scripts_399 : decode cL_scripts 399 = .ok (.aload_n 0, 1) := by decide +kernel
theorem dL_scripts_400 : decode cL_scripts 400 = .ok (.iconst 1, 1) := by decide +kernel
theorem dL_scripts_401 : decode cL_scripts 401 = .ok (.ldc2_w 287, 3) := by decide +kernel
theorem dL_scripts_404 : decode cL_scripts 404 = .ok (.invokestatic 211, 3) := by decide +kernel
theorem dL_scripts_407 : decode cL_scripts 407 = .ok (.iload_n 3, 1) := by decide +kernel
theorem dL_scripts_408 : decode cL_scripts 408 = .ok (.sipush 999, 3) := by decide +kernel
theorem dL_scripts_411 : decode cL_scripts 411 = .ok (.if_icmp .gt 8, 3) := by decide +kernel
theorem dL_scripts_414 : decode cL_scripts 414 = .ok (.ldc 138, 2) := by decide +kernel
theorem dL_scripts_416 : decode cL_scripts 416 = .ok (.goto 4, 3) := by decide +kernel
theorem dL_scripts_419 : decode cL_scripts 419 = .ok (.iconst 0, 1) := by decide +kernel
theorem dL_scripts_420 : decode cL_scripts 420 = .ok (.if_icmp .ne 105, 3) := by decide +kernel
theorem dL_scripts_423 : decode cL_scripts 423 = .ok (.aload_n 0, 1) := by decide +kernel
theorem dL_scripts_424 : decode cL_scripts 424 = .ok (.iconst 1, 1) := by decide +kernel
theorem dL_scripts_425 : decode cL_scripts 425 = .ok (.ldc2_w 289, 3) := by decide +kernel
theorem dL_scripts_428 : decode cL_scripts 428 = .ok (.invokestatic 211, 3) := by decide +kernel
theorem dL_scripts_431 : decode cL_scripts 431 = .ok (.iload_n 3, 1) := by decide +kernel
theorem dL_scripts_432 : decode cL_scripts 432 = .ok (.ifCond .gt 8, 3) := by decide +kernel
theorem dL_scripts_435 : decode cL_scripts 435 = .ok (.ldc 138, 2) := by decide +kernel
theorem dL_scripts_437 : decode cL_scripts 437 = .ok (.goto 4, 3) := by decide +kernel
theorem dL_scripts_440 : decode cL_scripts 440 = .ok (.iconst 0, 1) := by decide +kernel
theorem dL_scripts_441 : decode cL_scripts 441 = .ok (.if_icmp .ne 84, 3) := by decide +kernel
theorem dL_scripts_444 : decode cL_scripts 444 = .ok (.aload_n 0, 1) := by decide +kernel
theorem dL_scripts_445 : decode cL_scripts 445 = .ok (.iconst 1, 1) := by decide +kernel
theorem dL_scripts_446 : decode cL_scripts 446 = .ok (.ldc2_w 291, 3) := by decide +kernel
theorem dL_scripts_449 : decode cL_scripts 449 = .ok (.invokestatic 211, 3) := by decide +kernel
theorem dL_scripts_452 : decode cL_scripts 452 = .ok (.iload_n 3, 1) := by decide +kernel
theorem dL_scripts_453 : decode cL_scripts 453 = .ok (.sipush (-999), 3) := by decide +kernel
theorem dL_scripts_456 : decode cL_scripts 456 = .ok (.if_icmp .gt 8, 3) := by decide +kernel
theorem dL_scripts_459 : decode cL_scripts 459 = .ok (.ldc 138, 2) := by decide +kernel
theorem dL_scripts_461 : decode cL_scripts 461 = .ok (.goto 4, 3) := by decide +kernel
theorem dL_scripts_464 : decode cL_scripts 464 = .ok (.iconst 0, 1) := by decide +kernel
theorem dL_scripts_465 : decode cL_scripts 465 = .ok (.if_icmp .ne 60, 3) := by decide +kernel
theorem dL_scripts_468 : decode cL_scripts 468 = .ok (.iload_n 3, 1) := by decide +kernel
theorem dL_scripts_469 : decode cL_scripts 469 = .ok (.ifCond .lt 26, 3) := by decide +kernel
theorem dL_scripts_472 : decode cL_scripts 472 = .ok (.iload_n 3, 1) := by decide +kernel
theorem dL_scripts_473 : decode cL_scripts 473 = .ok (.sipush 999, 3) := by decide +kernel
theorem dL_scripts_476 : decode cL_scripts 476 = .ok (.if_icmp .gt 19, 3) := by decide +kernel
theorem dL_scripts_479 : decode cL_scripts 479 = .ok (.aload_n 0, 1) := by decide +kernel
theorem dL_scripts_480 : decode cL_scripts 480 = .ok (.iconst 1, 1) := by decide +kernel
theorem dL_scripts_481 : decode cL_scripts 481 = .ok (.ldc2_w 289, 3) := by decide +kernel
theorem dL_scripts_484 : decode cL_scripts 484 = .ok (.iload_n 3, 1) := by decide +kernel
theorem dL_scripts_485 : decode cL_scripts 485 = .ok (.i2l, 1) := by decide +kernel
theorem dL_scripts_486 : decode cL_scripts 486 = .ok (.ladd, 1) := by decide +kernel
theorem dL_scripts_487 : decode cL_scripts 487 = .ok (.invokestatic 211, 3) := by decide +kernel
theorem dL_scripts_490 : decode cL_scripts 490 = .ok (.ldc 138, 2) := by decide +kernel
theorem dL_scripts_492 : decode cL_scripts 492 = .ok (.if_icmp .ne 33, 3) := by decide +kernel
theorem dL_scripts_495 : decode cL_scripts 495 = .ok (.iload_n 3, 1) := by decide +kernel
theorem dL_scripts_496 : decode cL_scripts 496 = .ok (.iconst (-1), 1) := by decide +kernel
theorem dL_scripts_497 : decode cL_scripts 497 = .ok (.if_icmp .gt 24, 3) := by decide +kernel
theorem dL_scripts_500 : decode cL_scripts 500 = .ok (.iload_n 3, 1) := by decide +kernel
theorem dL_scripts_501 : decode cL_scripts 501 = .ok (.sipush (-998), 3) := by decide +kernel
theorem dL_scripts_504 : decode cL_scripts 504 = .ok (.if_icmp .lt 17, 3) := by decide +kernel
theorem dL_scripts_507 : decode cL_scripts 507 = .ok (.aload_n 0, 1) := by decide +kernel
theorem dL_scripts_508 : decode cL_scripts 508 = .ok (.iconst 1, 1) := by decide +kernel
theorem dL_scripts_509 : decode cL_scripts 509 = .ok (.ldc2_w 293, 3) := by decide +kernel
theorem dL_scripts_512 : decode cL_scripts 512 = .ok (.iload_n 3, 1) := by decide +kernel
theorem dL_scripts_513 : decode cL_scripts 513 = .ok (.i2l, 1) := by decide +kernel
theorem dL_scripts_514 : decode cL_scripts 514 = .ok (.lsub, 1) := by decide +kernel
theorem dL_scripts_515 : decode cL_scripts 515 = .ok (.invokestatic 211, 3) := by decide +kernel
theorem dL_scripts_518 : decode cL_scripts 518 = .ok (.ifCond .ne 7, 3) := by decide +kernel
theorem dL_scripts_521 : decode cL_scripts 521 = .ok (.iconst 1, 1) := by decide +kernel
theorem dL_scripts_522 : decode cL_scripts 522 = .ok (.goto 4, 3) := by decide +kernel
theorem dL_scripts_525 : decode cL_scripts 525 = .ok (.iconst 0, 1) := by decide +kernel
theorem dL_scripts_526 : decode cL_scripts 526 = .ok (.ireturn, 1) := by decide +kernel
set_option maxRecDepth 20000 in
theorem ggL_act_L_tryPass : GoodIn wsL_act wsL_tryPass := goodIn_ca (goodIn_r _ [6, 7, 8, 9, 10, 11, 12, 13, 14, 15, 16, 17, 18, 19, 20, 21, 22, 23, 24, 25, 26, 27, 28, 29, 30, 31, 32, 33, 34, 35, 36, 37, 38, 39, 40, 41, 42, 43, 44, 45, 46, 47, 48, 49, 50, 51, 52, 53, 54, 55, 56, 57, 58, 59, 60, 61, 62, 63, 64, 65, 66, 67, 68, 69, 70, 71, 72, 73, 74, 75, 76, 77, 78, 79, 80, 81, 82, 83, 84, 85, 86, 87, 88, 89, 90, 91, 92, 93, 94, 95, 96, 97, 98, 99, 100, 101, 102, 103, 104, 105, 106, 107, 108, 109, 110, 111, 112, 113, 114, 115, 116, 117, 118, 119, 120, 121, 122, 123, 124, 125, 126, 127, 128, 129, 130, 131, 132, 133, 134, 135, 136, 137, 138, 139, 140, 141, 142, 143, 144, 145, 146, 147, 148, 149, 150, 151, 152, 153, 154, 155, 324, 325, 326, 327, 328, 329, 330, 331, 332, 333, 334, 335, 336, 337, 338, 339, 340, 341, 342, 343, 344, 345, 346, 347, 348, 349, 350, 351, 352, 353, 354, 355, 356] rfl (by decide +kernel)) (goodIn_sub (fun _ h => List.mem_cons_of_mem _ (List.mem_append_left _ (List.mem_append_left _ (List.mem_append_right _ h)))) (by decide +kernel))
set_option maxRecDepth 20000 in
theorem gL_act_L_tryPass : GoodIn wsL_act (va_wsS RL 168 yL_tryPass wsL_tryPass) := goodIn_app (goodIn_of _ (by decide +kernel)) ggL_act_L_tryPass
set_option maxRecDepth 20000 in
theorem ggL_act_L_tryLevel : GoodIn wsL_act wsL_tryLevel := goodIn_ca (goodIn_r _ [158, 7, 8, 159, 160, 161, 12, 162, 14, 15, 163, 18, 19, 20, 21, 22, 23, 24, 25, 26, 27, 28, 29, 30, 31, 32, 33, 34, 35, 36, 37, 38, 39, 40, 41, 42, 43, 44, 45, 46, 47, 48, 49, 50, 51, 52, 53, 54, 55, 56, 57, 58, 59, 60, 61, 62, 63, 64, 65, 66, 67, 68, 69, 70, 71, 72, 73, 74, 75, 76, 77, 78, 79, 80, 81, 82, 83, 84, 85, 86, 87, 88, 89, 90, 164, 165, 166, 167, 168, 99, 100, 101, 102, 108, 109, 110, 111, 112, 113, 114, 115, 116, 117, 118, 119, 120, 121, 122, 123, 124, 125, 126, 127, 128, 129, 130, 131, 132, 133, 134, 169, 324, 325, 326, 327, 328, 329, 330, 331, 332, 333, 334, 342, 343, 335, 336, 337, 338, 339, 340, 341, 344, 345, 346, 347, 348, 349, 350, 351, 352, 353, 354, 355, 356] rfl (by decide +kernel)) (goodIn_sub (fun _ h => List.mem_cons_of_mem _ (List.mem_append_left _ (List.mem_append_left _ (List.mem_append_right _ h)))) (by decide +kernel))
set_option maxRecDepth 20000 in
theorem gL_act_L_tryLevel : GoodIn wsL_act (va_wsS RL 171 yL_tryLevel wsL_tryLevel) := goodIn_app (goodIn_of _ (by decide +kernel)) ggL_act_L_tryLevel
set_option maxRecDepth 20000 in
theorem ggL_act_L_trySetTime : GoodIn wsL_act wsL_trySetTime := goodIn_ca (goodIn_ca (goodIn_r _ [172, 7, 173, 8, 174, 175, 176, 177, 12, 178, 179, 14, 15, 16, 17, 18, 19, 20, 21, 22, 180, 181, 182, 183, 184, 185, 186, 187, 188, 37, 189, 41, 99, 100, 101, 64, 102, 68, 69, 23, 24, 25, 26, 27, 28, 29, 30, 31, 32, 33, 34, 35, 36, 38, 39, 40, 42, 43, 44, 45, 46, 47, 48, 49, 50, 51, 52, 53, 54, 55, 56, 57, 58, 59, 60, 61, 62, 63, 65, 66, 67, 70, 71, 72, 73, 74, 75, 76, 77, 78, 79, 80, 81, 82, 83, 84, 85, 86, 87, 88, 89, 90, 190, 191, 192, 193, 324, 325, 326, 327, 328, 329, 330, 331, 332, 333, 334, 335, 336, 337, 338, 339, 340, 341, 344, 345, 346, 347, 342, 343, 348, 349, 350, 351, 352, 353, 354, 355, 356] rfl (by decide +kernel)) (goodIn_sub (fun _ h => List.mem_cons_of_mem _ (List.mem_append_left _ (List.mem_append_left _ (List.mem_append_right _ h)))) (by decide +kernel))) (goodIn_sub (fun _ h => List.mem_cons_of_mem _ (List.mem_append_left _ (List.mem_append_right _ h))) (by decide +kernel))
set_option maxRecDepth 20000 in
theorem gL_act_L_trySetTime : GoodIn wsL_act (va_wsS RL 174 yL_trySetTime wsL_trySetTime) := goodIn_app (goodIn_of _ (by decide +kernel)) ggL_act_L_trySetTime
set_option maxRecDepth 20000 in
theorem ggL_act_L_tryCorrect : GoodIn wsL_act wsL_tryCorrect := goodIn_ca (goodIn_ca (goodIn_r _ [196, 7, 173, 8, 174, 197, 198, 199, 12, 200, 14, 15, 16, 201, 18, 19, 20, 21, 22, 180, 181, 182, 183, 184, 185, 186, 187, 188, 37, 189, 41, 99, 100, 101, 64, 102, 68, 69, 23, 24, 25, 26, 27, 28, 29, 30, 31, 32, 33, 34, 35, 36, 38, 39, 40, 42, 43, 44, 45, 46, 47, 48, 49, 50, 51, 52, 53, 54, 55, 56, 57, 58, 59, 60, 61, 62, 63, 65, 66, 67, 70, 71, 72, 73, 74, 75, 76, 77, 78, 79, 80, 81, 82, 83, 84, 85, 86, 87, 88, 89, 90, 324, 325, 326, 327, 328, 329, 330, 331, 332, 333, 334, 335, 336, 337, 338, 339, 340, 341, 344, 345, 346, 347, 342, 343, 348, 349, 350, 351, 352, 353, 354, 355, 356] rfl (by decide +kernel)) (goodIn_sub (fun _ h => List.mem_cons_of_mem _ (List.mem_append_left _ (List.mem_append_left _ (List.mem_append_right _ h)))) (by decide +kernel))) (goodIn_sub (fun _ h => List.mem_cons_of_mem _ (List.mem_append_left _ (List.mem_append_right _ h))) (by decide +kernel))
set_option maxRecDepth 20000 in
theorem gL_act_L_tryCorrect : GoodIn wsL_act (va_wsS RL 178 yL_tryCorrect wsL_tryCorrect) := goodIn_app (goodIn_of _ (by decide +kernel)) ggL_act_L_tryCorrect
set_option maxRecDepth 20000 in
theorem ggL_act_L_tryAge : GoodIn wsL_act wsL_tryAge := goodIn_ca (goodIn_r _ [204, 7, 8, 205, 206, 207, 12, 208, 14, 15, 16, 209, 18, 19, 20, 21, 22, 23, 24, 25, 26, 27, 28, 29, 30, 31, 32, 33, 34, 35, 36, 37, 38, 39, 40, 41, 42, 43, 44, 45, 46, 47, 48, 49, 50, 51, 52, 53, 54, 55, 56, 57, 58, 59, 60, 61, 62, 63, 64, 65, 66, 67, 68, 69, 70, 71, 72, 73, 74, 75, 76, 77, 78, 79, 80, 81, 82, 83, 84, 85, 86, 87, 88, 89, 90, 324, 325, 326, 327, 328, 329, 330, 331, 332, 333, 334, 335, 336, 337, 338, 339, 340, 341, 342, 343, 344, 345, 346, 347, 348, 349, 350, 351, 352, 353, 354, 355, 356] rfl (by decide +kernel)) (goodIn_sub (fun _ h => List.mem_cons_of_mem _ (List.mem_append_left _ (List.mem_append_left _ (List.mem_append_right _ h)))) (by decide +kernel))
set_option maxRecDepth 20000 in
theorem gL_act_L_tryAge : GoodIn wsL_act (va_wsS RL 181 yL_tryAge wsL_tryAge) := goodIn_app (goodIn_of _ (by decide +kernel)) ggL_act_L_tryAge
set_option maxRecDepth 20000 in
theorem ggL_act_L_tryWrite : GoodIn wsL_act wsL_tryWrite := goodIn_ca (goodIn_ca (goodIn_ca (goodIn_r _ [212, 213, 7, 173, 214, 8, 174, 215, 216, 217, 12, 218, 14, 15, 219, 220, 221, 222, 223, 224, 18, 19, 20, 21, 22, 180, 181, 182, 183, 184, 185, 186, 187, 188, 37, 189, 41, 99, 100, 101, 64, 102, 68, 69, 23, 24, 25, 26, 27, 28, 29, 30, 31, 32, 33, 34, 35, 36, 38, 39, 40, 42, 43, 44, 45, 46, 47, 48, 49, 50, 51, 52, 53, 54, 55, 56, 57, 58, 59, 60, 61, 62, 63, 65, 66, 67, 70, 71, 72, 73, 74, 75, 76, 77, 78, 79, 80, 81, 82, 83, 84, 85, 86, 87, 88, 89, 90, 324, 325, 326, 327, 328, 329, 330, 331, 332, 333, 334, 344, 345, 346, 347, 342, 343, 335, 336, 337, 338, 339, 340, 341, 348, 349, 350, 351, 352, 353, 354, 355, 356] rfl (by decide +kernel)) (goodIn_sub (fun _ h => List.mem_cons_of_mem _ (List.mem_append_right _ h)) (by decide +kernel))) (goodIn_sub (fun _ h => List.mem_cons_of_mem _ (List.mem_append_left _ (List.mem_append_left _ (List.mem_append_right _ h)))) (by decide +kernel))) (goodIn_sub (fun _ h => List.mem_cons_of_mem _ (List.mem_append_left _ (List.mem_append_right _ h))) (by decide +kernel))
set_option maxRecDepth 20000 in
theorem gL_act_L_tryWrite : GoodIn wsL_act (va_wsS RL 184 yL_tryWrite wsL_tryWrite) := goodIn_app (goodIn_of _ (by decide +kernel)) ggL_act_L_tryWrite
set_option maxRecDepth 20000 in
theorem ggL_act_L_tryGuard : GoodIn wsL_act wsL_tryGuard := goodIn_ca (goodIn_ca (goodIn_r _ [227, 213, 173, 214, 174, 228, 229, 230, 12, 231, 14, 15, 232, 233, 220, 221, 222, 223, 224, 180, 181, 182, 183, 184, 185, 186, 187, 188, 37, 189, 41, 99, 100, 101, 64, 102, 68, 69, 23, 24, 25, 26, 27, 28, 29, 30, 31, 32, 33, 34, 35, 36, 38, 39, 40, 42, 43, 44, 45, 46, 47, 48, 49, 50, 51, 52, 53, 54, 55, 56, 57, 58, 59, 60, 61, 62, 63, 65, 66, 67, 70, 71, 72, 73, 74, 75, 76, 77, 78, 79, 80, 81, 82, 83, 84, 85, 86, 87, 88, 89, 90, 234, 235, 236, 237, 324, 325, 326, 327, 328, 329, 330, 331, 332, 333, 334, 348, 349, 350, 351, 352, 353, 344, 345, 346, 347, 342, 343, 335, 336, 337, 338, 339, 340, 341, 354, 355, 356] rfl (by decide +kernel)) (goodIn_sub (fun _ h => List.mem_cons_of_mem _ (List.mem_append_right _ h)) (by decide +kernel))) (goodIn_sub (fun _ h => List.mem_cons_of_mem _ (List.mem_append_left _ (List.mem_append_right _ h))) (by decide +kernel))
set_option maxRecDepth 20000 in
theorem gL_act_L_tryGuard : GoodIn wsL_act (va_wsS RL 187 yL_tryGuard wsL_tryGuard) := goodIn_app (goodIn_of _ (by decide +kernel)) ggL_act_L_tryGuard
set_option maxRecDepth 20000 in
theorem ggL_act_L_tryTamper : GoodIn wsL_act wsL_tryTamper := goodIn_ca (goodIn_r _ [240, 213, 214, 241, 242, 243, 12, 244, 14, 15, 232, 245, 220, 221, 222, 223, 224, 23, 24, 25, 26, 27, 28, 29, 30, 31, 32, 33, 34, 35, 36, 37, 38, 39, 40, 41, 42, 43, 44, 45, 46, 47, 48, 49, 50, 51, 52, 53, 54, 55, 56, 57, 58, 59, 60, 61, 62, 63, 64, 65, 66, 67, 68, 69, 70, 71, 72, 73, 74, 75, 76, 77, 78, 79, 80, 81, 82, 83, 84, 85, 86, 87, 88, 89, 90, 246, 247, 248, 249, 250, 251, 99, 100, 101, 102, 123, 124, 125, 126, 252, 253, 254, 255, 324, 325, 326, 327, 328, 329, 330, 331, 332, 333, 334, 348, 349, 350, 351, 352, 353, 342, 343, 335, 336, 337, 338, 339, 340, 341, 344, 345, 346, 347, 354, 355, 356] rfl (by decide +kernel)) (goodIn_sub (fun _ h => List.mem_cons_of_mem _ (List.mem_append_right _ h)) (by decide +kernel))
set_option maxRecDepth 20000 in
theorem gL_act_L_tryTamper : GoodIn wsL_act (va_wsS RL 190 yL_tryTamper wsL_tryTamper) := goodIn_app (goodIn_of _ (by decide +kernel)) ggL_act_L_tryTamper
set_option maxRecDepth 20000 in
theorem ggL_act_L_tryClearRows : GoodIn wsL_act wsL_tryClearRows := goodIn_ca (goodIn_r _ [258, 173, 174, 259, 260, 261, 12, 262, 14, 15, 232, 245, 180, 181, 182, 183, 184, 185, 186, 187, 188, 37, 189, 41, 99, 100, 101, 64, 102, 68, 69, 23, 24, 25, 26, 27, 28, 29, 30, 31, 32, 33, 34, 35, 36, 38, 39, 40, 42, 43, 44, 45, 46, 47, 48, 49, 50, 51, 52, 53, 54, 55, 56, 57, 58, 59, 60, 61, 62, 63, 65, 66, 67, 70, 71, 72, 73, 74, 75, 76, 77, 78, 79, 80, 81, 82, 83, 84, 85, 86, 87, 88, 89, 90, 324, 325, 326, 327, 328, 329, 330, 331, 332, 333, 334, 348, 349, 350, 351, 352, 353, 344, 345, 346, 347, 342, 343, 335, 336, 337, 338, 339, 340, 341, 354, 355, 356] rfl (by decide +kernel)) (goodIn_sub (fun _ h => List.mem_cons_of_mem _ (List.mem_append_left _ (List.mem_append_right _ h))) (by decide +kernel))
set_option maxRecDepth 20000 in
theorem gL_act_L_tryClearRows : GoodIn wsL_act (va_wsS RL 199 yL_tryClearRows wsL_tryClearRows) := goodIn_app (goodIn_of _ (by decide +kernel)) ggL_act_L_tryClearRows
set_option maxRecDepth 20000 in
theorem ggL_act_L_trySetAlarm : GoodIn wsL_act wsL_trySetAlarm := goodIn_ca (goodIn_ca (goodIn_r _ [265, 213, 7, 214, 8, 266, 267, 268, 12, 269, 14, 15, 270, 271, 272, 220, 221, 222, 223, 224, 18, 19, 20, 21, 22, 23, 24, 25, 26, 27, 28, 29, 30, 31, 32, 33, 34, 35, 36, 37, 38, 39, 40, 41, 42, 43, 44, 45, 46, 47, 48, 49, 50, 51, 52, 53, 54, 55, 56, 57, 58, 59, 60, 61, 62, 63, 64, 65, 66, 67, 68, 69, 70, 71, 72, 73, 74, 75, 76, 77, 78, 79, 80, 81, 82, 83, 84, 85, 86, 87, 88, 89, 90, 273, 274, 275, 276, 324, 325, 326, 327, 328, 329, 330, 331, 332, 333, 334, 354, 355, 356, 342, 343, 335, 336, 337, 338, 339, 340, 341, 344, 345, 346, 347, 348, 349, 350, 351, 352, 353] rfl (by decide +kernel)) (goodIn_sub (fun _ h => List.mem_cons_of_mem _ (List.mem_append_right _ h)) (by decide +kernel))) (goodIn_sub (fun _ h => List.mem_cons_of_mem _ (List.mem_append_left _ (List.mem_append_left _ (List.mem_append_right _ h)))) (by decide +kernel))
set_option maxRecDepth 20000 in
theorem gL_act_L_trySetAlarm : GoodIn wsL_act (va_wsS RL 193 yL_trySetAlarm wsL_trySetAlarm) := goodIn_app (goodIn_of _ (by decide +kernel)) ggL_act_L_trySetAlarm
set_option maxRecDepth 20000 in
theorem ggL_act_L_tryBattery : GoodIn wsL_act wsL_tryBattery := goodIn_ca (goodIn_r _ [279, 7, 8, 280, 281, 282, 12, 283, 14, 15, 163, 18, 19, 20, 21, 22, 23, 24, 25, 26, 27, 28, 29, 30, 31, 32, 33, 34, 35, 36, 37, 38, 39, 40, 41, 42, 43, 44, 45, 46, 47, 48, 49, 50, 51, 52, 53, 54, 55, 56, 57, 58, 59, 60, 61, 62, 63, 64, 65, 66, 67, 68, 69, 70, 71, 72, 73, 74, 75, 76, 77, 78, 79, 80, 81, 82, 83, 84, 85, 86, 87, 88, 89, 90, 284, 285, 286, 287, 288, 99, 100, 101, 102, 108, 109, 110, 111, 112, 113, 114, 115, 116, 117, 118, 119, 120, 121, 122, 123, 124, 125, 126, 127, 128, 129, 130, 131, 132, 133, 134, 169, 324, 325, 326, 327, 328, 329, 330, 331, 332, 333, 334, 342, 343, 335, 336, 337, 338, 339, 340, 341, 344, 345, 346, 347, 348, 349, 350, 351, 352, 353, 354, 355, 356] rfl (by decide +kernel)) (goodIn_sub (fun _ h => List.mem_cons_of_mem _ (List.mem_append_left _ (List.mem_append_left _ (List.mem_append_right _ h)))) (by decide +kernel))
set_option maxRecDepth 20000 in
theorem gL_act_L_tryBattery : GoodIn wsL_act (va_wsS RL 196 yL_tryBattery wsL_tryBattery) := goodIn_app (goodIn_of _ (by decide +kernel)) ggL_act_L_tryBattery
set_option maxRecDepth 20000 in
theorem ggL_act_L_tryUndo : GoodIn wsL_act wsL_tryUndo := goodIn_ca (goodIn_r _ [291, 173, 174, 292, 293, 294, 12, 295, 184, 185, 14, 296, 15, 297, 298, 299, 26, 300, 28, 29, 34, 35, 36, 37, 38, 39, 40, 41, 42, 43, 44, 45, 46, 47, 48, 49, 50, 51, 52, 53, 54, 55, 56, 57, 58, 59, 60, 61, 62, 63, 64, 65, 66, 67, 68, 69, 70, 71, 72, 73, 74, 75, 76, 77, 78, 79, 80, 81, 82, 83, 84, 85, 86, 87, 88, 89, 90, 324, 325, 326, 327, 328, 342, 343, 329, 330, 331, 332, 333, 334, 335, 336, 337, 338, 339, 340, 341, 344, 345, 346, 347, 348, 349, 350, 351, 352, 353, 354, 355, 356] rfl (by decide +kernel)) (goodIn_sub (fun _ h => List.mem_cons_of_mem _ (List.mem_append_left _ (List.mem_append_right _ h))) (by decide +kernel))
set_option maxRecDepth 20000 in
theorem gL_act_L_tryUndo : GoodIn wsL_act (va_wsS RL 152 yL_tryUndo wsL_tryUndo) := goodIn_app (goodIn_of _ (by decide +kernel)) ggL_act_L_tryUndo
set_option maxRecDepth 20000 in
theorem ggL_act_L_trySave : GoodIn wsL_act wsL_trySave := goodIn_ca (goodIn_r _ [303, 213, 214, 304, 305, 306, 12, 307, 308, 309, 15, 310, 311, 220, 221, 222, 223, 224, 312, 35, 36, 37, 38, 39, 40, 41, 42, 43, 44, 45, 46, 47, 48, 49, 50, 51, 52, 53, 54, 55, 56, 57, 58, 59, 60, 61, 62, 63, 64, 65, 66, 67, 68, 69, 70, 71, 72, 73, 74, 75, 76, 77, 78, 79, 80, 81, 82, 83, 84, 85, 86, 87, 88, 89, 90, 324, 325, 326, 327, 328, 357, 358, 329, 330, 331, 332, 333, 334, 335, 336, 337, 338, 339, 340, 341, 344, 345, 346, 347, 348, 349, 350, 351, 352, 353, 354, 355, 356] rfl (by decide +kernel)) (goodIn_sub (fun _ h => List.mem_cons_of_mem _ (List.mem_append_right _ h)) (by decide +kernel))
set_option maxRecDepth 20000 in
theorem gL_act_L_trySave : GoodIn wsL_act (va_wsS RL 221 yL_trySave wsL_trySave) := goodIn_app (goodIn_of _ (by decide +kernel)) ggL_act_L_trySave
set_option maxRecDepth 20000 in
theorem ggL_act_L_tryRestore : GoodIn wsL_act wsL_tryRestore := goodIn_ca (goodIn_ca (goodIn_r _ [315, 213, 173, 214, 174, 316, 317, 318, 12, 319, 184, 185, 308, 310, 15, 309, 14, 311, 220, 221, 222, 223, 224, 312, 35, 36, 37, 38, 39, 40, 41, 42, 43, 44, 45, 46, 47, 48, 49, 50, 51, 52, 53, 54, 55, 56, 57, 58, 59, 60, 61, 62, 63, 64, 65, 66, 67, 68, 69, 70, 71, 72, 73, 74, 75, 76, 77, 78, 79, 80, 81, 82, 83, 84, 85, 86, 87, 88, 89, 90, 320, 321, 322, 26, 323, 28, 324, 325, 326, 327, 328, 357, 358, 329, 330, 331, 332, 333, 334, 335, 336, 337, 338, 339, 340, 341, 344, 345, 346, 347, 348, 349, 350, 351, 352, 353, 354, 355, 356, 342, 343] rfl (by decide +kernel)) (goodIn_sub (fun _ h => List.mem_cons_of_mem _ (List.mem_append_left _ (List.mem_append_right _ h))) (by decide +kernel))) (goodIn_sub (fun _ h => List.mem_cons_of_mem _ (List.mem_append_right _ h)) (by decide +kernel))
set_option maxRecDepth 20000 in
theorem gL_act_L_tryRestore : GoodIn wsL_act (va_wsS RL 155 yL_tryRestore wsL_tryRestore) := goodIn_app (goodIn_of _ (by decide +kernel)) ggL_act_L_tryRestore
theorem dL_act_0 : decode cL_act 0 = .ok (.iload_n 1, 1) := by decide +kernel
theorem dL_act_1 : decode cL_act 1 = .ok (.bipush 16, 2) := by decide +kernel
theorem dL_act_3 : decode cL_act 3 = .ok (.irem, 1) := by decide +kernel
theorem dL_act_4 : decode cL_act 4 = .ok (.tableswitch 263 0 14 #[76, 76, 76, 76, 101, 101, 110, 131, 171, 188, 209, 209, 217, 248, 258], 76) := by decide +kernel
theorem dL_act_80 : decode cL_act 80 = .ok (.aload_n 0, 1) := by decide +kernel
theorem dL_act_81 : decode cL_act 81 = .ok (.iconst 1, 1) := by decide +kernel
theorem dL_act_82 : decode cL_act 82 = .ok (.iload_n 2, 1) := by decide +kernel
theorem dL_act_83 : decode cL_act 83 = .ok (.iload_n 1, 1) := by decide +kernel
theorem dL_act_84 : decode cL_act 84 = .ok (.bipush 16, 2) := by decide +kernel
theorem dL_act_86 : decode cL_act 86 = .ok (.irem, 1) := by decide +kernel
theorem dL_act_87 : decode cL_act 87 = .ok (.iconst 2, 1) := by decide +kernel
theorem dL_act_88 : decode cL_act 88 = .ok (.if_icmp .ge 8, 3) := by decide +kernel
theorem dL_act_91 : decode cL_act 91 = .ok (.bipush 60, 2) := by decide +kernel
theorem dL_act_93 : decode cL_act 93 = .ok (.goto 6, 3) := by decide +kernel
theorem dL_act_96 : decode cL_act 96 = .ok (.sipush 1440, 3) := by decide +kernel
theorem dL_act_99 : decode cL_act 99 = .ok (.irem, 1) := by decide +kernel
theorem dL_act_100 : decode cL_act 100 = .ok (.iadd, 1) := by decide +kernel
theorem dL_act_101 : decode cL_act 101 = .ok (.invokestatic 168, 3) := by decide +kernel
theorem dL_act_104 : decode cL_act 104 = .ok (.ireturn, 1) := by decide +kernel
theorem dL_act_105 : decode cL_act 105 = .ok (.aload_n 0, 1) := by decide +kernel
theorem dL_act_106 : decode cL_act 106 = .ok (.iload_n 2, 1) := by decide +kernel
theorem dL_act_107 : decode cL_act 107 = .ok (.bipush 10, 2) := by decide +kernel
theorem dL_act_109 : decode cL_act 109 = .ok (.irem, 1) := by decide +kernel
theorem dL_act_110 : decode cL_act 110 = .ok (.invokestatic 171, 3) := by decide +kernel
theorem dL_act_113 : decode cL_act 113 = .ok (.ireturn, 1) := by decide +kernel
theorem dL_act_114 : decode cL_act 114 = .ok (.aload_n 0, 1) := by decide +kernel
theorem dL_act_115 : decode cL_act 115 = .ok (.iload_n 2, 1) := by decide +kernel
theorem dL_act_116 : decode cL_act 116 = .ok (.iload_n 2, 1) := by decide +kernel
theorem dL_act_117 : decode cL_act 117 = .ok (.iconst 2, 1) := by decide +kernel
theorem dL_act_118 : decode cL_act 118 = .ok (.irem, 1) := by decide +kernel
theorem dL_act_119 : decode cL_act 119 = .ok (.ifCond .ne 8, 3) := by decide +kernel
theorem dL_act_122 : decode cL_act 122 = .ok (.ldc 177, 2) := by decide +kernel
theorem dL_act_124 : decode cL_act 124 = .ok (.goto 6, 3) := by decide +kernel
theorem dL_act_127 : decode cL_act 127 = .ok (.ldc_w 295, 3) := by decide +kernel
theorem dL_act_130 : decode cL_act 130 = .ok (.irem, 1) := by decide +kernel
theorem dL_act_131 : decode cL_act 131 = .ok (.invokestatic 174, 3) := by decide +kernel
theorem dL_act_134 : decode cL_act 134 = .ok (.ireturn, 1) := by decide +kernel
theorem dL_act_135 : decode cL_act 135 = .ok (.iload_n 2, 1) := by decide +kernel
theorem dL_act_136 : decode cL_act 136 = .ok (.iconst 2, 1) := by decide +kernel
theorem dL_act_137 : decode cL_act 137 = .ok (.irem, 1) := by decide +kernel
theorem dL_act_138 : decode cL_act 138 = .ok (.ifCond .ne 21, 3) := by decide +kernel
theorem dL_act_141 : decode cL_act 141 = .ok (.aload_n 0, 1) := by decide +kernel
theorem dL_act_142 : decode cL_act 142 = .ok (.iload_n 2, 1) := by decide +kernel
theorem dL_act_143 : decode cL_act 143 = .ok (.iconst 2, 1) := by decide +kernel
theorem dL_act_144 : decode cL_act 144 = .ok (.idiv, 1) := by decide +kernel
theorem dL_act_145 : decode cL_act 145 = .ok (.sipush 1001, 3) := by decide +kernel
theorem dL_act_148 : decode cL_act 148 = .ok (.irem, 1) := by decide +kernel
theorem dL_act_149 : decode cL_act 149 = .ok (.sipush 500, 3) := by decide +kernel
theorem dL_act_152 : decode cL_act 152 = .ok (.isub, 1) := by decide +kernel
theorem dL_act_153 : decode cL_act 153 = .ok (.invokestatic 178, 3) := by decide +kernel
theorem dL_act_156 : decode cL_act 156 = .ok (.goto 18, 3) := by decide +kernel
theorem dL_act_159 : decode cL_act 159 = .ok (.aload_n 0, 1) := by decide +kernel
theorem dL_act_160 : decode cL_act 160 = .ok (.iload_n 2, 1) := by decide +kernel
theorem dL_act_161 : decode cL_act 161 = .ok (.iconst 2, 1) := by decide +kernel
theorem dL_act_162 : decode cL_act 162 = .ok (.idiv, 1) := by decide +kernel
theorem dL_act_163 : decode cL_act 163 = .ok (.sipush 1001, 3) := by decide +kernel
theorem dL_act_166 : decode cL_act 166 = .ok (.irem, 1) := by decide +kernel
theorem dL_act_167 : decode cL_act 167 = .ok (.sipush 500, 3) := by decide +kernel
theorem dL_act_170 : decode cL_act 170 = .ok (.isub, 1) := by decide +kernel
theorem dL_act_171 : decode cL_act 171 = .ok (.invokestatic 181, 3) := by decide +kernel
theorem dL_act_174 : decode cL_act 174 = .ok (.ireturn, 1) := by decide +kernel
theorem dL_act_175 : decode cL_act 175 = .ok (.aload_n 0, 1) := by decide +kernel
theorem dL_act_176 : decode cL_act 176 = .ok (.iload_n 2, 1) := by decide +kernel
theorem dL_act_177 : decode cL_act 177 = .ok (.bipush 8, 2) := by decide +kernel
theorem dL_act_179 : decode cL_act 179 = .ok (.irem, 1) := by decide +kernel
theorem dL_act_180 : decode cL_act 180 = .ok (.iload_n 2, 1) := by decide +kernel
theorem dL_act_181 : decode cL_act 181 = .ok (.bipush 8, 2) := by decide +kernel
theorem dL_act_183 : decode cL_act 183 = .ok (.idiv, 1) := by decide +kernel
theorem dL_act_184 : decode cL_act 184 = .ok (.sipush 256, 3) := by decide +kernel
theorem dL_act_187 : decode cL_act 187 = .ok (.irem, 1) := by decide +kernel
theorem dL_act_188 : decode cL_act 188 = .ok (.invokestatic 184, 3) := by decide +kernel
theorem dL_act_191 : decode cL_act 191 = .ok (.ireturn, 1) := by decide +kernel
theorem dL_act_192 : decode cL_act 192 = .ok (.aload_n 0, 1) := by decide +kernel
theorem dL_act_193 : decode cL_act 193 = .ok (.iload_n 2, 1) := by decide +kernel
theorem dL_act_194 : decode cL_act 194 = .ok (.iconst 3, 1) := by decide +kernel
theorem dL_act_195 : decode cL_act 195 = .ok (.irem, 1) := by decide +kernel
theorem dL_act_196 : decode cL_act 196 = .ok (.iload_n 2, 1) := by decide +kernel
theorem dL_act_197 : decode cL_act 197 = .ok (.iconst 4, 1) := by decide +kernel
theorem dL_act_198 : decode cL_act 198 = .ok (.idiv, 1) := by decide +kernel
theorem dL_act_199 : decode cL_act 199 = .ok (.iconst 4, 1) := by decide +kernel
theorem dL_act_200 : decode cL_act 200 = .ok (.irem, 1) := by decide +kernel
theorem dL_act_201 : decode cL_act 201 = .ok (.ifCond .le 7, 3) := by decide +kernel
theorem dL_act_204 : decode cL_act 204 = .ok (.iconst 1, 1) := by decide +kernel
theorem dL_act_205 : decode cL_act 205 = .ok (.goto 4, 3) := by decide +kernel
theorem dL_act_208 : decode cL_act 208 = .ok (.iconst 0, 1) := by decide +kernel
theorem dL_act_209 : decode cL_act 209 = .ok (.invokestatic 187, 3) := by decide +kernel
theorem dL_act_212 : decode cL_act 212 = .ok (.ireturn, 1) := by decide +kernel
theorem dL_act_213 : decode cL_act 213 = .ok (.aload_n 0, 1) := by decide +kernel
theorem dL_act_214 : decode cL_act 214 = .ok (.iload_n 2, 1) := by decide +kernel
theorem dL_act_215 : decode cL_act 215 = .ok (.iconst 3, 1) := by decide +kernel
theorem dL_act_216 : decode cL_act 216 = .ok (.irem, 1) := by decide +kernel
theorem dL_act_217 : decode cL_act 217 = .ok (.invokestatic 190, 3) := by decide +kernel
theorem dL_act_220 : decode cL_act 220 = .ok (.ireturn, 1) := by decide +kernel
theorem dL_act_221 : decode cL_act 221 = .ok (.iload_n 2, 1) := by decide +kernel
theorem dL_act_222 : decode cL_act 222 = .ok (.iconst 2, 1) := by decide +kernel
theorem dL_act_223 : decode cL_act 223 = .ok (.irem, 1) := by decide +kernel
theorem dL_act_224 : decode cL_act 224 = .ok (.ifCond .ne 10, 3) := by decide +kernel
theorem dL_act_227 : decode cL_act 227 = .ok (.aload_n 0, 1) := by decide +kernel
theorem dL_act_228 : decode cL_act 228 = .ok (.invokestatic 199, 3) := by decide +kernel
theorem dL_act_231 : decode cL_act 231 = .ok (.goto 20, 3) := by decide +kernel
theorem dL_act_234 : decode cL_act 234 = .ok (.aload_n 0, 1) := by decide +kernel
theorem dL_act_235 : decode cL_act 235 = .ok (.iload_n 2, 1) := by decide +kernel
theorem dL_act_236 : decode cL_act 236 = .ok (.iconst 2, 1) := by decide +kernel
theorem dL_act_237 : decode cL_act 237 = .ok (.idiv, 1) := by decide +kernel
theorem dL_act_238 : decode cL_act 238 = .ok (.iconst 4, 1) := by decide +kernel
theorem dL_act_239 : decode cL_act 239 = .ok (.irem, 1) := by decide +kernel
theorem dL_act_240 : decode cL_act 240 = .ok (.iload_n 2, 1) := by decide +kernel
theorem dL_act_241 : decode cL_act 241 = .ok (.bipush 8, 2) := by decide +kernel
theorem dL_act_243 : decode cL_act 243 = .ok (.idiv, 1) := by decide +kernel
theorem dL_act_244 : decode cL_act 244 = .ok (.sipush 1441, 3) := by decide +kernel
theorem dL_act_247 : decode cL_act 247 = .ok (.irem, 1) := by decide +kernel
theorem dL_act_248 : decode cL_act 248 = .ok (.invokestatic 193, 3) := by decide +kernel
theorem dL_act_251 : decode cL_act 251 = .ok (.ireturn, 1) := by decide +kernel
theorem dL_act_252 : decode cL_act 252 = .ok (.aload_n 0, 1) := by decide +kernel
