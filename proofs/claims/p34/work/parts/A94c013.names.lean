set_option maxRecDepth 20000 in
theorem gq_hands_wsL_hands_r1 : GoodIn wsL_law wsL_hands_r1 := goodIn_r _ [682, 293, 3, 196, 197, 198, 199, 200, 201, 202, 203, 204, 2, 205, 17, 206, 207, 208, 209, 210, 211, 212, 213, 16] rfl (by decide +kernel)
set_option maxRecDepth 20000 in
theorem gq_hands_wsL_hands_r2 : GoodIn wsL_law wsL_hands_r2 := goodIn_r _ [214, 76, 41, 215, 216, 217, 218, 219, 45, 220, 221, 49, 222, 223, 224, 225, 226, 227, 228, 229, 230, 231, 44, 232] rfl (by decide +kernel)
set_option maxRecDepth 20000 in
theorem gq_hands_wsL_hands_r3 : GoodIn wsL_law wsL_hands_r3 := goodIn_r _ [96, 97, 233, 234, 235, 236, 52, 237, 238, 239, 240, 241, 242, 243, 244, 54, 245, 119, 120, 114, 642, 643, 644, 310] rfl (by decide +kernel)
set_option maxRecDepth 20000 in
theorem gq_hands_wsL_hands_r4 : GoodIn wsL_law wsL_hands_r4 := goodIn_r _ [292, 645, 646, 647, 648, 26, 649, 650, 651, 316, 317, 318, 319, 320, 537, 263, 264, 265, 50, 266, 267, 268, 269, 270] rfl (by decide +kernel)
set_option maxRecDepth 20000 in
theorem gq_hands_wsL_hands_r5 : GoodIn wsL_law wsL_hands_r5 := goodIn_r _ [271, 272, 40, 273, 89, 90, 91, 81, 82, 83, 84, 274, 275, 276, 277, 61, 278, 98, 279, 280, 281, 48, 282, 65] rfl (by decide +kernel)
set_option maxRecDepth 20000 in
theorem gq_hands_wsL_hands_r6 : GoodIn wsL_law wsL_hands_r6 := goodIn_r _ [283, 66, 67, 68, 103, 104, 284, 285, 286, 287, 419, 420, 421, 422, 423, 424, 425, 22, 302, 359, 360, 361, 21, 362] rfl (by decide +kernel)
set_option maxRecDepth 20000 in
theorem gq_hands_wsL_hands_r7 : GoodIn wsL_law wsL_hands_r7 := goodIn_r _ [261, 126, 363, 364, 365, 366, 262, 426, 427, 428, 429, 380, 381, 382, 383, 384, 385, 386, 387, 388, 389, 86, 87, 88] rfl (by decide +kernel)
set_option maxRecDepth 20000 in
theorem gq_hands_wsL_hands_r8 : GoodIn wsL_law wsL_hands_r8 := goodIn_r _ [105, 106, 107, 108, 390, 391, 392, 393, 394, 395, 396, 397, 430, 678, 679, 680, 681, 295, 296, 297, 291, 298, 299, 300] rfl (by decide +kernel)
