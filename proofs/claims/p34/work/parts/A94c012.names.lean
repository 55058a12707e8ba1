set_option maxRecDepth 20000 in
theorem gq_scripts_wsX90 : GoodIn wsL_law wsX90 := goodIn_r _ [774, 775, 776, 777, 778] rfl (by decide +kernel)
set_option maxRecDepth 20000 in
theorem gq_scripts_wsX50 : GoodIn wsL_law wsX50 := goodIn_r _ [786, 787, 788, 789, 790, 791] rfl (by decide +kernel)
set_option maxRecDepth 20000 in
theorem gq_scripts_wsX10 : GoodIn wsL_law wsX10 := goodIn_r _ [796, 797, 798, 799, 800, 801, 802] rfl (by decide +kernel)
set_option maxRecDepth 20000 in
theorem gq_scripts_wsX60 : GoodIn wsL_law wsX60 := goodIn_r _ [803, 804, 805, 806] rfl (by decide +kernel)
set_option maxRecDepth 20000 in
theorem gq_scripts_wsX70 : GoodIn wsL_law wsX70 := goodIn_r _ [807, 808, 809, 810, 811, 812] rfl (by decide +kernel)
set_option maxRecDepth 20000 in
theorem gq_scripts_wsX00 : GoodIn wsL_law wsX00 := goodIn_r _ [813, 814, 815] rfl (by decide +kernel)
set_option maxRecDepth 20000 in
theorem ggL_law_L_scripts : GoodIn wsL_law wsL_scripts := goodIn_ca (goodIn_ca (goodIn_ca (goodIn_ca (goodIn_ca (goodIn_ca (goodIn_ca (goodIn_ca (goodIn_c1 gq_scripts_c (goodIn_app gq_scripts_wsL_scripts_r1 (goodIn_app gq_scripts_wsL_scripts_r2 (goodIn_app gq_scripts_wsL_scripts_r3 (goodIn_app gq_scripts_wsL_scripts_r4 (goodIn_app gq_scripts_wsL_scripts_r5 (goodIn_app gq_scripts_wsL_scripts_r6 (goodIn_app gq_scripts_wsL_scripts_r7 (goodIn_app gq_scripts_wsL_scripts_r8 (goodIn_app gq_scripts_wsL_scripts_r9 (goodIn_app gq_scripts_wsL_scripts_r10 (goodIn_app gq_scripts_wsL_scripts_r11 (goodIn_app gq_scripts_wsL_scripts_r12 gq_scripts_wsL_scripts_r13))))))))))))) gq_scripts_wsX90) gq_scripts_wsX50) gq_scripts_wsX10) gq_scripts_wsX60) gq_scripts_wsX70) gq_scripts_wsX00) (goodIn_sub (fun _ h => List.mem_append_left _ (List.mem_append_left _ (List.mem_append_right _ h))) (by decide +kernel))) (goodIn_sub (fun _ h => List.mem_append_right _ h) (by decide +kernel))
set_option maxRecDepth 20000 in
theorem gL_law_L_scripts : GoodIn wsL_law (va_wsS RL 311 yL_scripts wsL_scripts) := goodIn_app (goodIn_of _ (by decide +kernel)) ggL_law_L_scripts

set_option maxRecDepth 20000 in
theorem gq_hands_c_m : (Cond.code yL_hands cL_hands 26 (some .boolean)) ∈ wsL_law := List.mem_append_left _ (List.mem_append_left _ (List.mem_append_left _ (List.mem_append_left _ (List.mem_append_left _ (List.mem_append_left _ (List.mem_append_left _ (List.mem_append_left _ (List.mem_append_left _ (List.mem_append_left _ (List.mem_append_left _ (List.mem_append_left _ (List.mem_append_left _ (List.mem_append_right _ (List.mem_append_right _ (List.mem_append_right _ (List.mem_append_right _ (List.mem_append_right _ (List.mem_append_right _ (List.mem_append_right _ (List.mem_append_right _ (List.mem_append_right _ (List.mem_append_right _ (List.mem_append_right _ (List.mem_append_right _ (List.mem_append_right _ (List.mem_append_right _ (List.mem_append_right _ (List.mem_append_right _ (List.mem_append_right _ (List.mem_append_right _ (List.mem_append_right _ (List.mem_append_right _ (List.mem_append_right _ (List.mem_append_right _ (List.mem_append_right _ (List.mem_append_right _ (List.mem_append_right _ (List.mem_append_right _ (List.mem_append_right _ (List.mem_append_right _ (List.mem_append_right _ (List.mem_append_right _ (List.mem_append_right _ (List.mem_append_left _ (List.mem_of_getElem? (i := 22) rfl)))))))))))))))))))))))))))))))))))))))))))))
theorem gq_hands_c : GoodIn wsL_law [.code yL_hands cL_hands 26 (some .boolean)] := goodIn_sub (fun w h => by rw [List.mem_singleton.mp h]; exact gq_hands_c_m) (by decide +kernel)
