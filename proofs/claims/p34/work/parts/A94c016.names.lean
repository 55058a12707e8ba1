set_option maxRecDepth 20000 in
theorem gq_hands_wsX00 : GoodIn wsL_law wsX00 := goodIn_r _ [813, 814, 815] (by decide +kernel) (by decide +kernel)
set_option maxRecDepth 20000 in
theorem gq_hands_wsX40 : GoodIn wsL_law wsX40 := goodIn_r _ [794, 795] (by decide +kernel) (by decide +kernel)
set_option maxRecDepth 20000 in
theorem gq_hands_wsX20 : GoodIn wsL_law wsX20 := goodIn_r _ [792, 793] (by decide +kernel) (by decide +kernel)
set_option maxRecDepth 20000 in
theorem ggL_law_L_hands : GoodIn wsL_law wsL_hands := goodIn_ca (goodIn_ca (goodIn_ca (goodIn_ca (goodIn_ca (goodIn_ca (goodIn_ca (goodIn_ca (goodIn_ca (goodIn_ca (goodIn_ca (goodIn_c1 gq_hands_c (goodIn_app gq_hands_wsL_hands_r1 (goodIn_app gq_hands_wsL_hands_r2 (goodIn_app gq_hands_wsL_hands_r3 (goodIn_app gq_hands_wsL_hands_r4 (goodIn_app gq_hands_wsL_hands_r5 (goodIn_app gq_hands_wsL_hands_r6 (goodIn_app gq_hands_wsL_hands_r7 (goodIn_app gq_hands_wsL_hands_r8 (goodIn_app gq_hands_wsL_hands_r9 (goodIn_app gq_hands_wsL_hands_r10 (goodIn_app gq_hands_wsL_hands_r11 (goodIn_app gq_hands_wsL_hands_r12 (goodIn_app gq_hands_wsL_hands_r13 (goodIn_app gq_hands_wsL_hands_r14 (goodIn_app gq_hands_wsL_hands_r15 (goodIn_app gq_hands_wsL_hands_r16 (goodIn_app gq_hands_wsL_hands_r17 (goodIn_app gq_hands_wsL_hands_r18 gq_hands_wsL_hands_r19))))))))))))))))))) gq_hands_wsX90) gq_hands_wsX50) gq_hands_wsX10) gq_hands_wsX60) gq_hands_wsX70) gq_hands_wsX00) gq_hands_wsX40) gq_hands_wsX20) (goodIn_sub (fun _ h => List.mem_append_left _ (List.mem_append_left _ (List.mem_append_right _ h))) (by decide +kernel))) (goodIn_sub (fun _ h => List.mem_append_right _ h) (by decide +kernel))) (goodIn_sub (fun _ h => List.mem_append_left _ (List.mem_append_right _ h)) (by decide +kernel))
set_option maxRecDepth 20000 in
theorem gL_law_L_hands : GoodIn wsL_law (va_wsS RL 315 yL_hands wsL_hands) := goodIn_app (goodIn_of _ (by decide +kernel)) ggL_law_L_hands

set_option maxRecDepth 20000 in
theorem gq_minutes_c : GoodIn wsL_law [.code yL_minutes cL_minutes 31 (some .boolean)] := goodIn_r _ [772] (by decide +kernel) (by decide +kernel)
set_option maxRecDepth 20000 in
theorem gq_minutes_wsL_minutes_r1 : GoodIn wsL_law wsL_minutes_r1 := goodIn_r _ [682, 773, 529, 530, 198, 531, 200, 201, 532, 533, 534, 2, 535, 536, 18, 17, 206, 207, 208, 209, 210, 537, 263, 264] (by decide +kernel) (by decide +kernel)
set_option maxRecDepth 20000 in
theorem gq_minutes_wsL_minutes_r2 : GoodIn wsL_law wsL_minutes_r2 := goodIn_r _ [16, 265, 76, 41, 45, 49, 50, 266, 267, 268, 269, 52, 270, 271, 272, 40, 273, 89, 90, 91, 81, 82, 83, 84] (by decide +kernel) (by decide +kernel)
set_option maxRecDepth 20000 in
theorem gq_minutes_wsL_minutes_r3 : GoodIn wsL_law wsL_minutes_r3 := goodIn_r _ [274, 275, 276, 44, 277, 61, 278, 96, 97, 98, 279, 280, 281, 48, 282, 65, 283, 66, 67, 68, 103, 104, 284, 285] (by decide +kernel) (by decide +kernel)
