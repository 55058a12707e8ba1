set_option maxRecDepth 20000 in
theorem gL_law_X10_register : GoodIn wsL_law (wsV RL 137 RX10 yX10_register wsX10_register) := goodIn_app (goodIn_of _ (by decide +kernel)) ggL_law_X10_register
set_option maxRecDepth 20000 in
theorem ggL_law_L_isGuarded : GoodIn wsL_law wsL_isGuarded := goodIn_ca (goodIn_r _ [450, 429, 451, 452, 453, 2, 454, 21, 455, 456, 435, 436, 437, 438, 439, 972, 973, 974, 975, 976, 999, 1000, 1001, 1002, 1003, 1004, 1020, 1021, 1022, 1023, 1024, 1025] (by decide +kernel) (by decide +kernel)) (goodIn_sub (fun _ h => List.mem_append_right _ h) (by decide +kernel))
set_option maxRecDepth 20000 in
theorem gL_law_L_isGuarded : GoodIn wsL_law (va_wsS RL 138 yL_isGuarded wsL_isGuarded) := goodIn_app (goodIn_of _ (by decide +kernel)) ggL_law_L_isGuarded
set_option maxRecDepth 20000 in
theorem ggL_law_X10_isGuarded : GoodIn wsL_law wsX10_isGuarded := goodIn_r _ [460, 146, 461, 462, 5, 463, 464, 188, 189, 190, 191, 192, 193, 194, 195, 977, 978, 979, 980, 981, 982, 983, 984, 985, 986, 987, 988, 989, 990, 991] (by decide +kernel) (by decide +kernel)
set_option maxRecDepth 20000 in
theorem gL_law_X10_isGuarded : GoodIn wsL_law (wsV RL 140 RX10 yX10_isGuarded wsX10_isGuarded) := goodIn_app (goodIn_of _ (by decide +kernel)) ggL_law_X10_isGuarded
set_option maxRecDepth 20000 in
theorem ggL_law_L_row : GoodIn wsL_law wsL_row := goodIn_ca (goodIn_ca (goodIn_r _ [467, 429, 163, 468, 469, 470, 2, 471, 21, 455, 472, 435, 436, 437, 438, 439, 172, 173, 174, 175, 176, 473, 474, 475, 52, 476, 70, 71, 72, 972, 973, 974, 975, 976, 999, 1000, 1001, 1002, 1003, 1004, 1020, 1021, 1022, 1023, 1024, 1025] (by decide +kernel) (by decide +kernel)) (goodIn_sub (fun _ h => List.mem_append_right _ h) (by decide +kernel))) (goodIn_sub (fun _ h => List.mem_append_left _ (List.mem_append_right _ h)) (by decide +kernel))
set_option maxRecDepth 20000 in
theorem gL_law_L_row : GoodIn wsL_law (va_wsS RL 141 yL_row wsL_row) := goodIn_app (goodIn_of _ (by decide +kernel)) ggL_law_L_row
set_option maxRecDepth 20000 in
theorem ggL_law_X10_row : GoodIn wsL_law wsX10_row := goodIn_r _ [480, 146, 464, 188, 189, 5, 190, 191, 192, 193, 194, 195, 977, 978, 979, 980, 981, 982, 983, 984, 985, 986, 987, 988, 989, 990, 991] (by decide +kernel) (by decide +kernel)
set_option maxRecDepth 20000 in
theorem gL_law_X10_row : GoodIn wsL_law (wsV RL 144 RX10 yX10_row wsX10_row) := goodIn_app (goodIn_of _ (by decide +kernel)) ggL_law_X10_row
set_option maxRecDepth 20000 in
theorem ggL_law_L_alarm : GoodIn wsL_law wsL_alarm := goodIn_ca (goodIn_ca (goodIn_r _ [483, 429, 163, 484, 485, 486, 2, 487, 21, 488, 435, 436, 437, 438, 439, 172, 173, 174, 175, 176, 489, 392, 393, 58, 394, 123, 124, 118, 972, 973, 974, 975, 976, 999, 1000, 1001, 1002, 1003, 1004, 1026, 1027, 1028] (by decide +kernel) (by decide +kernel)) (goodIn_sub (fun _ h => List.mem_append_right _ h) (by decide +kernel))) (goodIn_sub (fun _ h => List.mem_append_left _ (List.mem_append_right _ h)) (by decide +kernel))
set_option maxRecDepth 20000 in
theorem gL_law_L_alarm : GoodIn wsL_law (va_wsS RL 145 yL_alarm wsL_alarm) := goodIn_app (goodIn_of _ (by decide +kernel)) ggL_law_L_alarm
set_option maxRecDepth 20000 in
theorem ggL_law_X10_alarm : GoodIn wsL_law wsX10_alarm := goodIn_r _ [493, 464, 146, 494, 495, 5, 496, 497, 188, 189, 190, 191, 192, 193, 194, 195, 977, 978, 979, 980, 981, 982, 983, 984, 985, 986, 987, 988, 989, 990, 991] (by decide +kernel) (by decide +kernel)
set_option maxRecDepth 20000 in
theorem gL_law_X10_alarm : GoodIn wsL_law (wsV RL 147 RX10 yX10_alarm wsX10_alarm) := goodIn_app (goodIn_of _ (by decide +kernel)) ggL_law_X10_alarm
set_option maxRecDepth 20000 in
theorem ggL_law_L_pass : GoodIn wsL_law wsL_pass := goodIn_ca (goodIn_r _ [500, 163, 501, 502, 503, 2, 504, 26, 21, 418, 505, 172, 173, 174, 175, 176, 506, 507, 508, 25, 509, 331, 130, 510, 511, 512, 513, 514, 302, 303, 20, 304, 80, 45, 49, 53, 54, 305, 306, 307, 308, 56, 309, 310, 311, 44, 312, 93, 94, 95, 85, 86, 87, 88, 313, 314, 315, 48, 316, 65, 317, 100, 101, 102, 318, 319, 320, 52, 321, 69, 322, 70, 71, 72, 107, 108, 323, 324, 325, 58, 326, 123, 124, 118, 515, 516, 517, 518, 519, 520, 521, 522, 378, 379, 380, 381, 523, 524, 525, 526, 527, 528, 529, 530, 531, 532, 533, 534, 535, 373, 371, 536, 537, 90, 91, 92, 109, 110, 111, 112, 538, 539, 540, 541, 542, 543, 544, 545, 546, 547, 548, 549, 550, 551, 552, 553, 554, 555, 556, 557, 558, 559, 560, 561, 562, 563, 564, 565, 566, 972, 973, 974, 975, 976, 999, 1000, 1001, 1002, 1003, 1004, 1009, 1010, 1011, 1012, 1013, 1014, 1015, 1005, 1006, 1016, 1017, 1018, 1019, 1020, 1021, 1022, 1023, 1024, 1025, 1026, 1027, 1028] (by decide +kernel) (by decide +kernel)) (goodIn_sub (fun _ h => List.mem_append_left _ (List.mem_append_right _ h)) (by decide +kernel))
set_option maxRecDepth 20000 in
theorem gL_law_L_pass : GoodIn wsL_law (va_wsS RL 148 yL_pass wsL_pass) := goodIn_app (goodIn_of _ (by decide +kernel)) ggL_law_L_pass
set_option maxRecDepth 20000 in
theorem ggL_law_X10_pass : GoodIn wsL_law wsX10_pass := goodIn_r _ [570, 571, 146, 151, 188, 189, 5, 190, 191, 192, 193, 194, 195, 572, 573, 574, 575, 346, 148, 153, 347, 348, 349, 576, 577, 578, 579, 580, 581, 403, 404, 405, 582, 583, 584, 585, 586, 587, 588, 589, 590, 591, 592, 593, 594, 595, 596, 597, 598, 599, 600, 601, 977, 978, 979, 980, 981, 982, 983, 984, 985, 986, 987, 988, 989, 990, 991] (by decide +kernel) (by decide +kernel)
set_option maxRecDepth 20000 in
theorem gL_law_X10_pass : GoodIn wsL_law (wsV RL 150 RX10 yX10_pass wsX10_pass) := goodIn_app (goodIn_of _ (by decide +kernel)) ggL_law_X10_pass
set_option maxRecDepth 20000 in
theorem ggL_law_L_level : GoodIn wsL_law wsL_level := goodIn_ca (goodIn_r _ [604, 163, 605, 606, 607, 2, 608, 26, 21, 416, 172, 173, 174, 175, 176, 506, 507, 508, 25, 509, 331, 130, 510, 511, 512, 513, 514, 302, 303, 20, 304, 80, 45, 49, 53, 54, 305, 306, 307, 308, 56, 309, 310, 311, 44, 312, 93, 94, 95, 85, 86, 87, 88, 313, 314, 315, 48, 316, 65, 317, 100, 101, 102, 318, 319, 320, 52, 321, 69, 322, 70, 71, 72, 107, 108, 323, 324, 325, 58, 326, 123, 124, 118, 609, 610, 611, 612, 369, 378, 379, 380, 381, 528, 529, 530, 531, 532, 533, 534, 535, 373, 371, 536, 537, 90, 91, 92, 109, 110, 111, 112, 538, 539, 540, 541, 542, 543, 544, 545, 613, 972, 973, 974, 975, 976, 999, 1000, 1001, 1002, 1003, 1004, 1005, 1006, 1009, 1010, 1011, 1012, 1013, 1014, 1015, 1016, 1017, 1018, 1019, 1020, 1021, 1022, 1023, 1024, 1025, 1026, 1027, 1028] (by decide +kernel) (by decide +kernel)) (goodIn_sub (fun _ h => List.mem_append_left _ (List.mem_append_right _ h)) (by decide +kernel))
set_option maxRecDepth 20000 in
theorem gL_law_L_level : GoodIn wsL_law (va_wsS RL 151 yL_level wsL_level) := goodIn_app (goodIn_of _ (by decide +kernel)) ggL_law_L_level
set_option maxRecDepth 20000 in
theorem ggL_law_X10_level : GoodIn wsL_law wsX10_level := goodIn_r _ [617, 284, 146, 188, 189, 5, 190, 191, 192, 193, 194, 195, 572, 573, 574, 575, 346, 148, 153, 151, 347, 348, 349, 618, 619, 620, 403, 404, 405, 585, 586, 587, 588, 589, 590, 591, 592, 593, 977, 978, 979, 980, 981, 982, 983, 984, 985, 986, 987, 988, 989, 990, 991] (by decide +kernel) (by decide +kernel)
set_option maxRecDepth 20000 in
theorem gL_law_X10_level : GoodIn wsL_law (wsV RL 153 RX10 yX10_level wsX10_level) := goodIn_app (goodIn_of _ (by decide +kernel)) ggL_law_X10_level
set_option maxRecDepth 20000 in
theorem ggL_law_L_setTime : GoodIn wsL_law wsL_setTime := goodIn_ca (goodIn_ca (goodIn_r _ [623, 163, 164, 624, 625, 626, 2, 627, 628, 26, 21, 418, 505, 172, 173, 174, 175, 176, 629, 630, 631, 632, 169, 170, 633, 634, 635, 20, 636, 49, 378, 379, 380, 48, 381, 100, 101, 506, 507, 508, 25, 509, 331, 130, 510, 511, 512, 513, 514, 302, 303, 304, 80, 45, 53, 54, 305, 306, 307, 308, 56, 309, 310, 311, 44, 312, 93, 94, 95, 85, 86, 87, 88, 313, 314, 315, 316, 65, 317, 102, 318, 319, 320, 52, 321, 69, 322, 70, 71, 72, 107, 108, 323, 324, 325, 58, 326, 123, 124, 118, 637, 638, 639, 640, 972, 973, 974, 975, 976, 999, 1000, 1001, 1002, 1003, 1004, 1009, 1010, 1011, 1012, 1013, 1014, 1015, 1016, 1017, 1018, 1019, 1005, 1006, 1020, 1021, 1022, 1023, 1024, 1025, 1026, 1027, 1028] (by decide +kernel) (by decide +kernel)) (goodIn_sub (fun _ h => List.mem_append_left _ (List.mem_append_right _ h)) (by decide +kernel))) (goodIn_sub (fun _ h => List.mem_append_left _ (List.mem_append_left _ (List.mem_append_right _ h))) (by decide +kernel))
set_option maxRecDepth 20000 in
theorem gL_law_L_setTime : GoodIn wsL_law (va_wsS RL 154 yL_setTime wsL_setTime) := goodIn_app (goodIn_of _ (by decide +kernel)) ggL_law_L_setTime
set_option maxRecDepth 20000 in
theorem ggL_law_X10_setTime : GoodIn wsL_law wsX10_setTime := goodIn_r _ [644, 645, 146, 188, 189, 5, 190, 403, 404, 405, 191, 192, 193, 194, 195, 572, 573, 574, 575, 346, 148, 153, 151, 347, 348, 349, 977, 978, 979, 980, 981, 982, 983, 984, 985, 986, 987, 988, 989, 990, 991] (by decide +kernel) (by decide +kernel)
set_option maxRecDepth 20000 in
theorem gL_law_X10_setTime : GoodIn wsL_law (wsV RL 156 RX10 yX10_setTime wsX10_setTime) := goodIn_app (goodIn_of _ (by decide +kernel)) ggL_law_X10_setTime
set_option maxRecDepth 20000 in
theorem ggL_law_L_correct : GoodIn wsL_law wsL_correct := goodIn_ca (goodIn_ca (goodIn_r _ [648, 163, 164, 649, 650, 651, 2, 652, 26, 21, 418, 653, 172, 173, 174, 175, 176, 629, 630, 631, 632, 169, 170, 633, 634, 635, 20, 636, 49, 378, 379, 380, 48, 381, 100, 101, 506, 507, 508, 25, 509, 331, 130, 510, 511, 512, 513, 514, 302, 303, 304, 80, 45, 53, 54, 305, 306, 307, 308, 56, 309, 310, 311, 44, 312, 93, 94, 95, 85, 86, 87, 88, 313, 314, 315, 316, 65, 317, 102, 318, 319, 320, 52, 321, 69, 322, 70, 71, 72, 107, 108, 323, 324, 325, 58, 326, 123, 124, 118, 972, 973, 974, 975, 976, 999, 1000, 1001, 1002, 1003, 1004, 1009, 1010, 1011, 1012, 1013, 1014, 1015, 1016, 1017, 1018, 1019, 1005, 1006, 1020, 1021, 1022, 1023, 1024, 1025, 1026, 1027, 1028] (by decide +kernel) (by decide +kernel)) (goodIn_sub (fun _ h => List.mem_append_left _ (List.mem_append_right _ h)) (by decide +kernel))) (goodIn_sub (fun _ h => List.mem_append_left _ (List.mem_append_left _ (List.mem_append_right _ h))) (by decide +kernel))
set_option maxRecDepth 20000 in
theorem gL_law_L_correct : GoodIn wsL_law (va_wsS RL 157 yL_correct wsL_correct) := goodIn_app (goodIn_of _ (by decide +kernel)) ggL_law_L_correct
set_option maxRecDepth 20000 in
theorem ggL_law_X10_correct : GoodIn wsL_law wsX10_correct := goodIn_r _ [657, 658, 659, 146, 188, 189, 5, 190, 403, 404, 405, 191, 192, 193, 194, 195, 572, 573, 574, 575, 346, 148, 153, 151, 347, 348, 349, 977, 978, 979, 980, 981, 982, 983, 984, 985, 986, 987, 988, 989, 990, 991] (by decide +kernel) (by decide +kernel)
set_option maxRecDepth 20000 in
theorem gL_law_X10_correct : GoodIn wsL_law (wsV RL 159 RX10 yX10_correct wsX10_correct) := goodIn_app (goodIn_of _ (by decide +kernel)) ggL_law_X10_correct
set_option maxRecDepth 20000 in
theorem ggL_law_L_age : GoodIn wsL_law wsL_age := goodIn_ca (goodIn_r _ [662, 163, 663, 664, 665, 2, 666, 26, 21, 418, 667, 172, 173, 174, 175, 176, 506, 507, 508, 25, 509, 331, 130, 510, 511, 512, 513, 514, 302, 303, 20, 304, 80, 45, 49, 53, 54, 305, 306, 307, 308, 56, 309, 310, 311, 44, 312, 93, 94, 95, 85, 86, 87, 88, 313, 314, 315, 48, 316, 65, 317, 100, 101, 102, 318, 319, 320, 52, 321, 69, 322, 70, 71, 72, 107, 108, 323, 324, 325, 58, 326, 123, 124, 118, 972, 973, 974, 975, 976, 999, 1000, 1001, 1002, 1003, 1004, 1009, 1010, 1011, 1012, 1013, 1014, 1015, 1005, 1006, 1016, 1017, 1018, 1019, 1020, 1021, 1022, 1023, 1024, 1025, 1026, 1027, 1028] (by decide +kernel) (by decide +kernel)) (goodIn_sub (fun _ h => List.mem_append_left _ (List.mem_append_right _ h)) (by decide +kernel))
set_option maxRecDepth 20000 in
theorem gL_law_L_age : GoodIn wsL_law (va_wsS RL 160 yL_age wsL_age) := goodIn_app (goodIn_of _ (by decide +kernel)) ggL_law_L_age
set_option maxRecDepth 20000 in
theorem ggL_law_X10_age : GoodIn wsL_law wsX10_age := goodIn_r _ [671, 658, 659, 146, 188, 189, 5, 190, 191, 192, 193, 194, 195, 572, 573, 574, 575, 346, 148, 153, 151, 347, 348, 349, 977, 978, 979, 980, 981, 982, 983, 984, 985, 986, 987, 988, 989, 990, 991] (by decide +kernel) (by decide +kernel)
set_option maxRecDepth 20000 in
theorem gL_law_X10_age : GoodIn wsL_law (wsV RL 162 RX10 yX10_age wsX10_age) := goodIn_app (goodIn_of _ (by decide +kernel)) ggL_law_X10_age
