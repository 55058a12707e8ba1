set_option maxRecDepth 20000 in
theorem gq_act_wsL_act_r6 : GoodIn wsL_law wsL_act_r6 := goodIn_r _ [87, 88, 105, 106, 107, 108, 390, 391, 392, 393, 394, 395, 396, 397, 398, 399, 400, 401, 402, 403, 404, 405, 406, 407] rfl (by decide +kernel)
set_option maxRecDepth 20000 in
theorem gq_act_wsL_act_r7 : GoodIn wsL_law wsL_act_r7 := goodIn_r _ [408, 409, 410, 411, 412, 413, 414, 415, 416, 417, 418, 419, 420, 421, 422, 423, 424, 425, 302, 426, 427, 428, 429, 220] rfl (by decide +kernel)
set_option maxRecDepth 20000 in
theorem gq_act_wsL_act_r8 : GoodIn wsL_law wsL_act_r8 := goodIn_r _ [430, 431, 432, 433, 249, 3, 434, 435, 436, 437, 438, 439, 440, 441, 442, 254, 255, 443, 444, 445, 446, 447, 448, 449] rfl (by decide +kernel)
set_option maxRecDepth 20000 in
theorem gq_act_wsL_act_r9 : GoodIn wsL_law wsL_act_r9 := goodIn_r _ [450, 451, 452, 453, 454, 455, 456, 457, 458, 459, 460, 461, 462, 463, 464, 465, 466, 467, 468, 469, 310, 292, 470, 471] rfl (by decide +kernel)
set_option maxRecDepth 20000 in
theorem gq_act_wsL_act_r10 : GoodIn wsL_law wsL_act_r10 := goodIn_r _ [472, 473, 315, 316, 317, 318, 319, 320, 474, 475, 476, 477, 478, 479, 480, 328, 329, 481, 482, 483, 484, 485, 486, 487] rfl (by decide +kernel)
set_option maxRecDepth 20000 in
theorem gq_act_wsL_act_r11 : GoodIn wsL_law wsL_act_r11 := goodIn_r _ [488, 489, 490, 491, 337, 492, 493, 494, 495, 496, 215, 497, 498, 499, 500, 522, 523, 524, 525, 526, 527, 528, 501, 502] rfl (by decide +kernel)
set_option maxRecDepth 20000 in
theorem gq_act_wsL_act_r12 : GoodIn wsL_law wsL_act_r12 := goodIn_r _ [503, 504, 505, 506, 507, 349, 508, 509, 510, 116, 117, 118, 511, 512, 513, 514, 515, 516, 517, 518, 519, 520, 521, 221] rfl (by decide +kernel)
set_option maxRecDepth 20000 in
theorem gq_act_wsL_act_r13 : GoodIn wsL_law wsL_act_r13 := goodIn_r _ [246, 247, 248, 250, 251, 252, 253, 256, 257, 258, 259, 260, 642, 643, 644, 645, 646, 647, 648, 26, 649, 650, 651, 537] rfl (by decide +kernel)
