set_option maxRecDepth 20000 in
theorem gq_refuses_wsX50 : GoodIn wsL_law wsX50 := goodIn_r _ [786, 787, 788, 789, 790, 791] rfl (by decide +kernel)
set_option maxRecDepth 20000 in
theorem gq_refuses_wsX10 : GoodIn wsL_law wsX10 := goodIn_r _ [796, 797, 798, 799, 800, 801, 802] rfl (by decide +kernel)
set_option maxRecDepth 20000 in
theorem gq_refuses_wsX60 : GoodIn wsL_law wsX60 := goodIn_r _ [803, 804, 805, 806] rfl (by decide +kernel)
set_option maxRecDepth 20000 in
theorem gq_refuses_wsX70 : GoodIn wsL_law wsX70 := goodIn_r _ [807, 808, 809, 810, 811, 812] rfl (by decide +kernel)
set_option maxRecDepth 20000 in
theorem gq_refuses_wsX00 : GoodIn wsL_law wsX00 := goodIn_r _ [813, 814, 815] rfl (by decide +kernel)
set_option maxRecDepth 20000 in
theorem gq_refuses_wsX20 : GoodIn wsL_law wsX20 := goodIn_r _ [792, 793] rfl (by decide +kernel)
set_option maxRecDepth 20000 in
theorem gq_refuses_wsX40 : GoodIn wsL_law wsX40 := goodIn_r _ [794, 795] rfl (by decide +kernel)
set_option maxRecDepth 20000 in
theorem gq_refuses_wsX80 : GoodIn wsL_law wsX80 := goodIn_r _ [779, 780, 781, 782, 783, 784, 785] rfl (by decide +kernel)
