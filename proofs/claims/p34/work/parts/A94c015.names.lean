set_option maxRecDepth 20000 in
theorem gq_hands_wsL_hands_r17 : GoodIn wsL_law wsL_hands_r17 := goodIn_r _ [525, 526, 527, 528, 548, 549, 550, 551, 552, 553, 554, 555, 556, 557, 558, 559, 564, 565, 566, 567, 568, 569, 570, 571] rfl (by decide +kernel)
set_option maxRecDepth 20000 in
theorem gq_hands_wsL_hands_r18 : GoodIn wsL_law wsL_hands_r18 := goodIn_r _ [572, 573, 574, 575, 576, 577, 578, 579, 767, 768, 769, 529, 530, 531, 532, 533, 534, 535, 536, 367, 368, 369, 370, 371] rfl (by decide +kernel)
set_option maxRecDepth 20000 in
theorem gq_hands_wsL_hands_r19 : GoodIn wsL_law wsL_hands_r19 := goodIn_r _ [246, 247, 248, 250, 251, 252, 253, 256, 257, 258, 259, 260] rfl (by decide +kernel)
set_option maxRecDepth 20000 in
theorem gq_hands_wsX90 : GoodIn wsL_law wsX90 := goodIn_r _ [774, 775, 776, 777, 778] rfl (by decide +kernel)
set_option maxRecDepth 20000 in
theorem gq_hands_wsX50 : GoodIn wsL_law wsX50 := goodIn_r _ [786, 787, 788, 789, 790, 791] rfl (by decide +kernel)
set_option maxRecDepth 20000 in
theorem gq_hands_wsX10 : GoodIn wsL_law wsX10 := goodIn_r _ [796, 797, 798, 799, 800, 801, 802] rfl (by decide +kernel)
set_option maxRecDepth 20000 in
theorem gq_hands_wsX60 : GoodIn wsL_law wsX60 := goodIn_r _ [803, 804, 805, 806] rfl (by decide +kernel)
set_option maxRecDepth 20000 in
theorem gq_hands_wsX70 : GoodIn wsL_law wsX70 := goodIn_r _ [807, 808, 809, 810, 811, 812] rfl (by decide +kernel)
