set_option maxRecDepth 20000 in
theorem gq_act_wsL_act_r14 : GoodIn wsL_law wsL_act_r14 := goodIn_r _ [652, 653, 654, 655, 656, 657, 658, 659, 660, 661, 662] rfl (by decide +kernel)
set_option maxRecDepth 20000 in
theorem gq_act_wsX90 : GoodIn wsL_law wsX90 := goodIn_r _ [774, 775, 776, 777, 778] rfl (by decide +kernel)
set_option maxRecDepth 20000 in
theorem gq_act_wsX50 : GoodIn wsL_law wsX50 := goodIn_r _ [786, 787, 788, 789, 790, 791] rfl (by decide +kernel)
set_option maxRecDepth 20000 in
theorem gq_act_wsX10 : GoodIn wsL_law wsX10 := goodIn_r _ [796, 797, 798, 799, 800, 801, 802] rfl (by decide +kernel)
set_option maxRecDepth 20000 in
theorem gq_act_wsX20 : GoodIn wsL_law wsX20 := goodIn_r _ [792, 793] rfl (by decide +kernel)
set_option maxRecDepth 20000 in
theorem gq_act_wsX60 : GoodIn wsL_law wsX60 := goodIn_r _ [803, 804, 805, 806] rfl (by decide +kernel)
set_option maxRecDepth 20000 in
theorem gq_act_wsX70 : GoodIn wsL_law wsX70 := goodIn_r _ [807, 808, 809, 810, 811, 812] rfl (by decide +kernel)
set_option maxRecDepth 20000 in
theorem gq_act_wsX00 : GoodIn wsL_law wsX00 := goodIn_r _ [813, 814, 815] rfl (by decide +kernel)
