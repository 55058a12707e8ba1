set_option maxRecDepth 20000 in
theorem gq_act_wsX40 : GoodIn wsL_law wsX40 := goodIn_r _ [794, 795] rfl (by decide +kernel)
set_option maxRecDepth 20000 in
theorem ggL_law_L_act : GoodIn wsL_law wsL_act := goodIn_ca (goodIn_ca (goodIn_ca (goodIn_ca (goodIn_ca (goodIn_ca (goodIn_ca (goodIn_ca (goodIn_ca (goodIn_ca (goodIn_ca (goodIn_c1 gq_act_c (goodIn_app gq_act_wsL_act_r1 (goodIn_app gq_act_wsL_act_r2 (goodIn_app gq_act_wsL_act_r3 (goodIn_app gq_act_wsL_act_r4 (goodIn_app gq_act_wsL_act_r5 (goodIn_app gq_act_wsL_act_r6 (goodIn_app gq_act_wsL_act_r7 (goodIn_app gq_act_wsL_act_r8 (goodIn_app gq_act_wsL_act_r9 (goodIn_app gq_act_wsL_act_r10 (goodIn_app gq_act_wsL_act_r11 (goodIn_app gq_act_wsL_act_r12 (goodIn_app gq_act_wsL_act_r13 gq_act_wsL_act_r14)))))))))))))) gq_act_wsX90) gq_act_wsX50) gq_act_wsX10) gq_act_wsX20) gq_act_wsX60) gq_act_wsX70) gq_act_wsX00) gq_act_wsX40) (goodIn_sub (fun _ h => List.mem_append_left _ (List.mem_append_left _ (List.mem_append_right _ h))) (by decide +kernel))) (goodIn_sub (fun _ h => List.mem_append_left _ (List.mem_append_right _ h)) (by decide +kernel))) (goodIn_sub (fun _ h => List.mem_append_right _ h) (by decide +kernel))
set_option maxRecDepth 20000 in
theorem gL_law_L_act : GoodIn wsL_law (va_wsS RL 308 yL_act wsL_act) := goodIn_app (goodIn_of _ (by decide +kernel)) ggL_law_L_act

set_option maxRecDepth 20000 in
theorem gq_scripts_c : GoodIn wsL_law [.code yL_scripts cL_scripts 8 (some .boolean)] := goodIn_r _ [736] rfl (by decide +kernel)
set_option maxRecDepth 20000 in
theorem gq_scripts_wsL_scripts_r1 : GoodIn wsL_law wsL_scripts_r1 := goodIn_r _ [737, 738, 682, 739, 740, 741, 742, 743, 744, 745, 746, 747, 748, 749, 750, 751, 752, 753, 754, 755, 756, 757, 758, 759] rfl (by decide +kernel)
set_option maxRecDepth 20000 in
theorem gq_scripts_wsL_scripts_r2 : GoodIn wsL_law wsL_scripts_r2 := goodIn_r _ [760, 761, 762, 763, 196, 197, 198, 199, 200, 201, 202, 203, 204, 2, 205, 17, 206, 207, 208, 209, 210, 211, 212, 213] rfl (by decide +kernel)
set_option maxRecDepth 20000 in
theorem gq_scripts_wsL_scripts_r3 : GoodIn wsL_law wsL_scripts_r3 := goodIn_r _ [16, 214, 76, 41, 215, 216, 217, 218, 219, 45, 220, 221, 49, 222, 223, 224, 225, 226, 227, 228, 229, 230, 231, 44] rfl (by decide +kernel)
set_option maxRecDepth 20000 in
theorem gq_scripts_wsL_scripts_r4 : GoodIn wsL_law wsL_scripts_r4 := goodIn_r _ [232, 96, 97, 233, 234, 235, 236, 52, 237, 238, 239, 240, 241, 242, 243, 244, 54, 245, 119, 120, 114, 307, 308, 309] rfl (by decide +kernel)
set_option maxRecDepth 20000 in
theorem gq_scripts_wsL_scripts_r5 : GoodIn wsL_law wsL_scripts_r5 := goodIn_r _ [310, 292, 311, 312, 313, 314, 315, 316, 317, 318, 319, 320, 632, 633, 634, 635, 636, 637, 638, 18, 639, 640, 302, 641] rfl (by decide +kernel)
