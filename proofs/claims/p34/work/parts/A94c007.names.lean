set_option maxRecDepth 20000 in
theorem gq_told_wsX40 : GoodIn wsL_law wsX40 := goodIn_r _ [794, 795] rfl (by decide +kernel)
set_option maxRecDepth 20000 in
theorem ggL_law_L_told : GoodIn wsL_law wsL_told := goodIn_ca (goodIn_ca (goodIn_ca (goodIn_ca (goodIn_ca (goodIn_ca (goodIn_ca (goodIn_ca (goodIn_ca (goodIn_ca (goodIn_ca (goodIn_ca (goodIn_c1 gq_told_c (goodIn_app gq_told_wsL_told_r1 (goodIn_app gq_told_wsL_told_r2 (goodIn_app gq_told_wsL_told_r3 (goodIn_app gq_told_wsL_told_r4 (goodIn_app gq_told_wsL_told_r5 (goodIn_app gq_told_wsL_told_r6 (goodIn_app gq_told_wsL_told_r7 (goodIn_app gq_told_wsL_told_r8 (goodIn_app gq_told_wsL_told_r9 (goodIn_app gq_told_wsL_told_r10 (goodIn_app gq_told_wsL_told_r11 (goodIn_app gq_told_wsL_told_r12 (goodIn_app gq_told_wsL_told_r13 gq_told_wsL_told_r14)))))))))))))) gq_told_wsX90) gq_told_wsX80) gq_told_wsX50) gq_told_wsX10) gq_told_wsX60) gq_told_wsX70) gq_told_wsX00) gq_told_wsX20) gq_told_wsX40) (goodIn_sub (fun _ h => List.mem_append_left _ (List.mem_append_right _ h)) (by decide +kernel))) (goodIn_sub (fun _ h => List.mem_append_left _ (List.mem_append_left _ (List.mem_append_right _ h))) (by decide +kernel))) (goodIn_sub (fun _ h => List.mem_append_right _ h) (by decide +kernel))
set_option maxRecDepth 20000 in
theorem gL_law_L_told : GoodIn wsL_law (va_wsS RL 304 yL_told wsL_told) := goodIn_app (goodIn_of _ (by decide +kernel)) ggL_law_L_told

set_option maxRecDepth 20000 in
theorem gq_act_c : GoodIn wsL_law [.code yL_act cL_act 3 (some .int)] := goodIn_r _ [732] rfl (by decide +kernel)
set_option maxRecDepth 20000 in
theorem gq_act_wsL_act_r1 : GoodIn wsL_law wsL_act_r1 := goodIn_r _ [293, 733, 351, 352, 198, 353, 200, 201, 354, 355, 356, 2, 357, 22, 17, 304, 358, 206, 207, 208, 209, 210, 359, 360] rfl (by decide +kernel)
set_option maxRecDepth 20000 in
theorem gq_act_wsL_act_r2 : GoodIn wsL_law wsL_act_r2 := goodIn_r _ [361, 21, 362, 261, 126, 363, 364, 365, 366, 262, 263, 264, 16, 265, 76, 41, 45, 49, 50, 266, 267, 268, 269, 52] rfl (by decide +kernel)
set_option maxRecDepth 20000 in
theorem gq_act_wsL_act_r3 : GoodIn wsL_law wsL_act_r3 := goodIn_r _ [270, 271, 272, 40, 273, 89, 90, 91, 81, 82, 83, 84, 274, 275, 276, 44, 277, 61, 278, 96, 97, 98, 279, 280] rfl (by decide +kernel)
set_option maxRecDepth 20000 in
theorem gq_act_wsL_act_r4 : GoodIn wsL_law wsL_act_r4 := goodIn_r _ [281, 48, 282, 65, 283, 66, 67, 68, 103, 104, 284, 285, 286, 54, 287, 119, 120, 114, 367, 368, 369, 370, 371, 372] rfl (by decide +kernel)
set_option maxRecDepth 20000 in
theorem gq_act_wsL_act_r5 : GoodIn wsL_law wsL_act_r5 := goodIn_r _ [373, 374, 229, 230, 231, 232, 375, 376, 377, 378, 379, 380, 381, 382, 383, 384, 385, 386, 387, 224, 222, 388, 389, 86] rfl (by decide +kernel)
