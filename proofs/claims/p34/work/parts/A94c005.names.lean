set_option maxRecDepth 20000 in
theorem gq_told_wsL_told_r7 : GoodIn wsL_law wsL_told_r7 := goodIn_r _ [177, 178, 179, 180, 181, 182, 183, 184, 185, 186, 187, 188, 189, 190, 191, 192, 193, 194, 195, 687, 688, 689, 710, 711] rfl (by decide +kernel)
set_option maxRecDepth 20000 in
theorem gq_told_wsL_told_r8 : GoodIn wsL_law wsL_told_r8 := goodIn_r _ [712, 713, 714, 715, 716, 717, 718, 719, 509, 17, 22, 26, 537, 263, 264, 265, 266, 267, 268, 269, 270, 271, 272, 273] rfl (by decide +kernel)
set_option maxRecDepth 20000 in
theorem gq_told_wsL_told_r9 : GoodIn wsL_law wsL_told_r9 := goodIn_r _ [274, 275, 276, 277, 278, 279, 280, 281, 282, 283, 66, 67, 68, 284, 285, 286, 287, 659, 660, 661, 21, 662, 261, 720] rfl (by decide +kernel)
set_option maxRecDepth 20000 in
theorem gq_told_wsL_told_r10 : GoodIn wsL_law wsL_told_r10 := goodIn_r _ [721, 722, 25, 723, 134, 724, 725, 726, 727, 728, 729, 196, 197, 199, 202, 203, 204, 205, 211, 212, 213, 214, 215, 216] rfl (by decide +kernel)
set_option maxRecDepth 20000 in
theorem gq_told_wsL_told_r11 : GoodIn wsL_law wsL_told_r11 := goodIn_r _ [217, 218, 219, 220, 221, 222, 223, 224, 225, 226, 227, 228, 229, 230, 231, 232, 233, 234, 235, 236, 237, 238, 239, 240] rfl (by decide +kernel)
set_option maxRecDepth 20000 in
theorem gq_told_wsL_told_r12 : GoodIn wsL_law wsL_told_r12 := goodIn_r _ [241, 242, 243, 244, 245, 307, 308, 309, 310, 292, 311, 312, 313, 314, 315, 316, 317, 318, 319, 320, 321, 322, 323, 324] rfl (by decide +kernel)
set_option maxRecDepth 20000 in
theorem gq_told_wsL_told_r13 : GoodIn wsL_law wsL_told_r13 := goodIn_r _ [325, 326, 327, 328, 329, 246, 247, 248, 250, 251, 252, 253, 256, 257, 258, 259, 260, 126, 262, 652, 653, 654, 655, 656] rfl (by decide +kernel)
set_option maxRecDepth 20000 in
theorem gq_told_wsL_told_r14 : GoodIn wsL_law wsL_told_r14 := goodIn_r _ [657, 658, 650, 649, 651] rfl (by decide +kernel)
