set_option maxRecDepth 20000 in
theorem gq_scripts_wsL_scripts_r6 : GoodIn wsL_law wsL_scripts_r6 := goodIn_r _ [328, 337, 537, 263, 264, 265, 50, 266, 267, 268, 269, 270, 271, 272, 40, 273, 89, 90, 91, 81, 82, 83, 84, 274] rfl (by decide +kernel)
set_option maxRecDepth 20000 in
theorem gq_scripts_wsL_scripts_r7 : GoodIn wsL_law wsL_scripts_r7 := goodIn_r _ [275, 276, 277, 61, 278, 98, 279, 280, 281, 48, 282, 65, 283, 66, 67, 68, 103, 104, 284, 285, 286, 287, 426, 427] rfl (by decide +kernel)
set_option maxRecDepth 20000 in
theorem gq_scripts_wsL_scripts_r8 : GoodIn wsL_law wsL_scripts_r8 := goodIn_r _ [428, 429, 380, 381, 382, 383, 384, 385, 386, 387, 388, 389, 86, 87, 88, 105, 106, 107, 108, 390, 391, 392, 393, 394] rfl (by decide +kernel)
set_option maxRecDepth 20000 in
theorem gq_scripts_wsL_scripts_r9 : GoodIn wsL_law wsL_scripts_r9 := goodIn_r _ [395, 396, 397, 492, 493, 494, 495, 496, 497, 498, 499, 500, 367, 368, 369, 370, 371, 372, 373, 374, 375, 376, 377, 378] rfl (by decide +kernel)
set_option maxRecDepth 20000 in
theorem gq_scripts_wsL_scripts_r10 : GoodIn wsL_law wsL_scripts_r10 := goodIn_r _ [379, 398, 399, 400, 401, 402, 403, 404, 405, 406, 407, 408, 409, 410, 411, 412, 413, 414, 415, 416, 417, 418, 430, 580] rfl (by decide +kernel)
set_option maxRecDepth 20000 in
theorem gq_scripts_wsL_scripts_r11 : GoodIn wsL_law wsL_scripts_r11 := goodIn_r _ [581, 582, 583, 584, 585, 586, 509, 587, 588, 589, 590, 591, 592, 593, 594, 595, 596, 597, 598, 599, 600, 601, 602, 603] rfl (by decide +kernel)
set_option maxRecDepth 20000 in
theorem gq_scripts_wsL_scripts_r12 : GoodIn wsL_law wsL_scripts_r12 := goodIn_r _ [604, 605, 606, 607, 608, 609, 610, 611, 612, 613, 614, 615, 616, 444, 445, 446, 617, 618, 619, 620, 621, 622, 623, 624] rfl (by decide +kernel)
set_option maxRecDepth 20000 in
theorem gq_scripts_wsL_scripts_r13 : GoodIn wsL_law wsL_scripts_r13 := goodIn_r _ [625, 626, 627, 628, 629, 116, 117, 118, 630, 631] rfl (by decide +kernel)
