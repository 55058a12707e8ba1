set_option maxRecDepth 20000 in
theorem gq_minutes_wsL_minutes_r4 : GoodIn wsL_law wsL_minutes_r4 := goodIn_r _ [286, 54, 287, 119, 120, 114, 367, 368, 369, 370, 371, 372, 373, 374, 229, 230, 231, 232, 375, 376, 377, 378, 379, 380] rfl (by decide +kernel)
set_option maxRecDepth 20000 in
theorem gq_minutes_wsL_minutes_r5 : GoodIn wsL_law wsL_minutes_r5 := goodIn_r _ [381, 382, 383, 384, 385, 386, 387, 224, 222, 388, 389, 86, 87, 88, 105, 106, 107, 108, 390, 391, 392, 393, 394, 395] rfl (by decide +kernel)
set_option maxRecDepth 20000 in
theorem gq_minutes_wsL_minutes_r6 : GoodIn wsL_law wsL_minutes_r6 := goodIn_r _ [396, 397, 398, 399, 400, 401, 402, 403, 404, 405, 406, 407, 408, 409, 410, 411, 412, 413, 414, 415, 416, 417, 418, 211] rfl (by decide +kernel)
set_option maxRecDepth 20000 in
theorem gq_minutes_wsL_minutes_r7 : GoodIn wsL_law wsL_minutes_r7 := goodIn_r _ [212, 213, 214, 215, 216, 217, 218, 219, 220, 221, 223, 225, 226, 227, 228, 233, 234, 235, 236, 237, 238, 239, 240, 241] rfl (by decide +kernel)
set_option maxRecDepth 20000 in
theorem gq_minutes_wsL_minutes_r8 : GoodIn wsL_law wsL_minutes_r8 := goodIn_r _ [242, 243, 244, 245, 538, 539, 540, 310, 292, 541, 542, 543, 544, 304, 349, 509, 316, 317, 318, 319, 320, 545, 546, 547] rfl (by decide +kernel)
set_option maxRecDepth 20000 in
theorem gq_minutes_wsL_minutes_r9 : GoodIn wsL_law wsL_minutes_r9 := goodIn_r _ [196, 197, 199, 202, 203, 204, 205, 342, 343, 344, 345, 346, 347, 348, 350, 295, 296, 297, 291, 298, 299, 300, 301, 302] rfl (by decide +kernel)
set_option maxRecDepth 20000 in
theorem gq_minutes_wsL_minutes_r10 : GoodIn wsL_law wsL_minutes_r10 := goodIn_r _ [303, 305, 306, 351, 352, 353, 354, 355, 356, 357, 22, 358, 359, 360, 361, 21, 362, 261, 126, 363, 364, 365, 366, 262] rfl (by decide +kernel)
set_option maxRecDepth 20000 in
theorem gq_minutes_wsL_minutes_r11 : GoodIn wsL_law wsL_minutes_r11 := goodIn_r _ [687, 688, 689, 678, 679, 680, 681, 683, 684, 685, 686, 430, 690, 691, 692, 693, 694, 560, 561, 562, 563, 307, 308, 309] rfl (by decide +kernel)
