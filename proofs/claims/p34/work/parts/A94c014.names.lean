set_option maxRecDepth 20000 in
theorem gq_hands_wsL_hands_r9 : GoodIn wsL_law wsL_hands_r9 := goodIn_r _ [301, 303, 304, 305, 306, 342, 343, 344, 345, 346, 347, 348, 349, 350, 683, 684, 685, 686, 687, 688, 689, 690, 691, 692] rfl (by decide +kernel)
set_option maxRecDepth 20000 in
theorem gq_hands_wsL_hands_r10 : GoodIn wsL_law wsL_hands_r10 := goodIn_r _ [693, 694, 560, 561, 562, 563, 379, 307, 308, 309, 311, 312, 313, 314, 315, 330, 331, 332, 333, 334, 335, 336, 328, 337] rfl (by decide +kernel)
set_option maxRecDepth 20000 in
theorem gq_hands_wsL_hands_r11 : GoodIn wsL_law wsL_hands_r11 := goodIn_r _ [338, 339, 340, 341, 652, 653, 654, 249, 655, 656, 657, 658, 254, 255, 659, 660, 661, 662, 511, 512, 513, 514, 515, 516] rfl (by decide +kernel)
set_option maxRecDepth 20000 in
theorem gq_hands_wsL_hands_r12 : GoodIn wsL_law wsL_hands_r12 := goodIn_r _ [517, 518, 519, 520, 521, 321, 322, 323, 324, 325, 326, 327, 329, 485, 486, 487, 488, 489, 490, 491, 492, 493, 494, 495] rfl (by decide +kernel)
set_option maxRecDepth 20000 in
theorem gq_hands_wsL_hands_r13 : GoodIn wsL_law wsL_hands_r13 := goodIn_r _ [496, 497, 498, 499, 500, 501, 502, 503, 504, 505, 506, 507, 508, 509, 510, 116, 117, 118, 538, 539, 540, 541, 542, 543] rfl (by decide +kernel)
set_option maxRecDepth 20000 in
theorem gq_hands_wsL_hands_r14 : GoodIn wsL_law wsL_hands_r14 := goodIn_r _ [544, 18, 545, 403, 404, 405, 546, 372, 373, 374, 375, 376, 377, 378, 398, 399, 400, 401, 402, 406, 407, 408, 409, 410] rfl (by decide +kernel)
set_option maxRecDepth 20000 in
theorem gq_hands_wsL_hands_r15 : GoodIn wsL_law wsL_hands_r15 := goodIn_r _ [411, 412, 413, 414, 415, 416, 417, 418, 547, 431, 432, 433, 434, 435, 436, 437, 438, 358, 439, 440, 441, 442, 443, 444] rfl (by decide +kernel)
set_option maxRecDepth 20000 in
theorem gq_hands_wsL_hands_r16 : GoodIn wsL_law wsL_hands_r16 := goodIn_r _ [445, 446, 447, 448, 449, 450, 451, 452, 453, 454, 455, 456, 457, 458, 467, 468, 469, 470, 471, 472, 473, 522, 523, 524] rfl (by decide +kernel)
