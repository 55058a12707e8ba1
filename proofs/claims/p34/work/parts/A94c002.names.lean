set_option maxRecDepth 20000 in
theorem gq_refuses_wsL_refuses_r16 : GoodIn wsL_law wsL_refuses_r16 := goodIn_r _ [524, 525, 526, 527, 528, 529, 530, 531, 532, 533, 534, 535, 536, 18, 537, 538, 539, 540, 541, 542, 543, 544, 545, 546] rfl (by decide +kernel)
set_option maxRecDepth 20000 in
theorem gq_refuses_wsL_refuses_r17 : GoodIn wsL_law wsL_refuses_r17 := goodIn_r _ [547, 548, 549, 550, 551, 552, 553, 554, 555, 556, 557, 558, 559, 560, 561, 562, 563, 564, 565, 566, 567, 568, 569, 570] rfl (by decide +kernel)
set_option maxRecDepth 20000 in
theorem gq_refuses_wsL_refuses_r18 : GoodIn wsL_law wsL_refuses_r18 := goodIn_r _ [571, 572, 573, 574, 575, 576, 577, 578, 579, 580, 581, 582, 583, 584, 585, 586, 587, 588, 589, 590, 591, 592, 593, 594] rfl (by decide +kernel)
set_option maxRecDepth 20000 in
theorem gq_refuses_wsL_refuses_r19 : GoodIn wsL_law wsL_refuses_r19 := goodIn_r _ [595, 596, 597, 598, 599, 600, 601, 602, 603, 604, 605, 606, 607, 608, 609, 610, 611, 612, 613, 614, 615, 616, 617, 618] rfl (by decide +kernel)
set_option maxRecDepth 20000 in
theorem gq_refuses_wsL_refuses_r20 : GoodIn wsL_law wsL_refuses_r20 := goodIn_r _ [619, 620, 621, 622, 623, 624, 625, 626, 627, 628, 629, 630, 631, 632, 633, 634, 635, 636, 637, 638, 639, 640, 641, 642] rfl (by decide +kernel)
set_option maxRecDepth 20000 in
theorem gq_refuses_wsL_refuses_r21 : GoodIn wsL_law wsL_refuses_r21 := goodIn_r _ [643, 644, 645, 646, 647, 648, 26, 649, 650, 651, 652, 653, 654, 655, 656, 657, 658, 659, 660, 661, 662, 663, 664, 665] rfl (by decide +kernel)
set_option maxRecDepth 20000 in
theorem gq_refuses_wsL_refuses_r22 : GoodIn wsL_law wsL_refuses_r22 := goodIn_r _ [666, 667, 668, 669, 13, 670, 671, 672, 673, 12, 674, 145, 31] rfl (by decide +kernel)
set_option maxRecDepth 20000 in
theorem gq_refuses_wsX90 : GoodIn wsL_law wsX90 := goodIn_r _ [774, 775, 776, 777, 778] rfl (by decide +kernel)
