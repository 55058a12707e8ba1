set_option maxRecDepth 20000 in
theorem ggL_law_L_refuses : GoodIn wsL_law wsL_refuses := goodIn_ca (goodIn_ca (goodIn_ca (goodIn_ca (goodIn_ca (goodIn_ca (goodIn_ca (goodIn_ca (goodIn_ca (goodIn_ca (goodIn_ca (goodIn_ca (goodIn_c1 gq_refuses_c (goodIn_app gq_refuses_wsL_refuses_r1 (goodIn_app gq_refuses_wsL_refuses_r2 (goodIn_app gq_refuses_wsL_refuses_r3 (goodIn_app gq_refuses_wsL_refuses_r4 (goodIn_app gq_refuses_wsL_refuses_r5 (goodIn_app gq_refuses_wsL_refuses_r6 (goodIn_app gq_refuses_wsL_refuses_r7 (goodIn_app gq_refuses_wsL_refuses_r8 (goodIn_app gq_refuses_wsL_refuses_r9 (goodIn_app gq_refuses_wsL_refuses_r10 (goodIn_app gq_refuses_wsL_refuses_r11 (goodIn_app gq_refuses_wsL_refuses_r12 (goodIn_app gq_refuses_wsL_refuses_r13 (goodIn_app gq_refuses_wsL_refuses_r14 (goodIn_app gq_refuses_wsL_refuses_r15 (goodIn_app gq_refuses_wsL_refuses_r16 (goodIn_app gq_refuses_wsL_refuses_r17 (goodIn_app gq_refuses_wsL_refuses_r18 (goodIn_app gq_refuses_wsL_refuses_r19 (goodIn_app gq_refuses_wsL_refuses_r20 (goodIn_app gq_refuses_wsL_refuses_r21 gq_refuses_wsL_refuses_r22)))))))))))))))))))))) gq_refuses_wsX90) gq_refuses_wsX50) gq_refuses_wsX10) gq_refuses_wsX60) gq_refuses_wsX70) gq_refuses_wsX00) gq_refuses_wsX20) gq_refuses_wsX40) gq_refuses_wsX80) (goodIn_sub (fun _ h => List.mem_append_left _ (List.mem_append_left _ (List.mem_append_right _ h))) (by decide +kernel))) (goodIn_sub (fun _ h => List.mem_append_right _ h) (by decide +kernel))) (goodIn_sub (fun _ h => List.mem_append_left _ (List.mem_append_right _ h)) (by decide +kernel))
set_option maxRecDepth 20000 in
theorem gL_law_L_refuses : GoodIn wsL_law (va_wsS RL 297 yL_refuses wsL_refuses) := goodIn_app (goodIn_of _ (by decide +kernel)) ggL_law_L_refuses

set_option maxRecDepth 20000 in
theorem gq_told_c : GoodIn wsL_law [.code yL_told cL_told 12 (some .boolean)] := goodIn_r _ [697] rfl (by decide +kernel)
set_option maxRecDepth 20000 in
theorem gq_told_wsL_told_r1 : GoodIn wsL_law wsL_told_r1 := goodIn_r _ [682, 3, 698, 699, 198, 700, 701, 702, 703, 704, 705, 2, 706, 13, 670, 707, 708, 709, 663, 664, 665, 200, 249, 201] rfl (by decide +kernel)
set_option maxRecDepth 20000 in
theorem gq_told_wsL_told_r2 : GoodIn wsL_law wsL_told_r2 := goodIn_r _ [666, 667, 668, 669, 254, 255, 206, 207, 208, 209, 210, 671, 672, 673, 12, 674, 145, 31, 136, 137, 138, 139, 18, 140] rfl (by decide +kernel)
set_option maxRecDepth 20000 in
theorem gq_told_wsL_told_r3 : GoodIn wsL_law wsL_told_r3 := goodIn_r _ [141, 142, 143, 144, 146, 147, 73, 74, 16, 75, 76, 41, 45, 49, 52, 77, 78, 79, 40, 80, 81, 82, 83, 84] rfl (by decide +kernel)
set_option maxRecDepth 20000 in
theorem gq_told_wsL_told_r4 : GoodIn wsL_law wsL_told_r4 := goodIn_r _ [85, 86, 87, 88, 89, 90, 91, 92, 93, 94, 44, 95, 61, 96, 97, 98, 99, 100, 101, 48, 102, 65, 103, 104] rfl (by decide +kernel)
set_option maxRecDepth 20000 in
theorem gq_told_wsL_told_r5 : GoodIn wsL_law wsL_told_r5 := goodIn_r _ [105, 106, 107, 108, 50, 109, 110, 111, 54, 112, 113, 114, 115, 116, 117, 118, 119, 120, 148, 149, 150, 151, 152, 153] rfl (by decide +kernel)
set_option maxRecDepth 20000 in
theorem gq_told_wsL_told_r6 : GoodIn wsL_law wsL_told_r6 := goodIn_r _ [154, 33, 155, 156, 157, 158, 159, 160, 161, 162, 163, 164, 165, 166, 167, 168, 169, 170, 171, 172, 173, 174, 175, 176] rfl (by decide +kernel)
