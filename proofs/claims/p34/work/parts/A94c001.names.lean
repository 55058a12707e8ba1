set_option maxRecDepth 20000 in
theorem gq_refuses_wsL_refuses_r8 : GoodIn wsL_law wsL_refuses_r8 := goodIn_r _ [82, 83, 84, 274, 275, 276, 277, 61, 278, 98, 279, 280, 281, 282, 65, 283, 103, 104, 284, 285, 286, 287, 367, 368] rfl (by decide +kernel)
set_option maxRecDepth 20000 in
theorem gq_refuses_wsL_refuses_r9 : GoodIn wsL_law wsL_refuses_r9 := goodIn_r _ [369, 370, 371, 372, 373, 374, 375, 376, 377, 378, 379, 380, 381, 382, 383, 384, 385, 386, 387, 388, 389, 86, 87, 88] rfl (by decide +kernel)
set_option maxRecDepth 20000 in
theorem gq_refuses_wsL_refuses_r10 : GoodIn wsL_law wsL_refuses_r10 := goodIn_r _ [105, 106, 107, 108, 390, 391, 392, 393, 394, 395, 396, 397, 398, 399, 400, 401, 402, 403, 404, 405, 406, 407, 408, 409] rfl (by decide +kernel)
set_option maxRecDepth 20000 in
theorem gq_refuses_wsL_refuses_r11 : GoodIn wsL_law wsL_refuses_r11 := goodIn_r _ [410, 411, 412, 413, 414, 415, 416, 417, 418, 419, 420, 421, 422, 423, 424, 425, 426, 427, 428, 429, 430, 431, 432, 433] rfl (by decide +kernel)
set_option maxRecDepth 20000 in
theorem gq_refuses_wsL_refuses_r12 : GoodIn wsL_law wsL_refuses_r12 := goodIn_r _ [249, 434, 435, 436, 437, 438, 439, 440, 441, 442, 254, 255, 443, 444, 445, 446, 447, 448, 449, 450, 451, 452, 453, 454] rfl (by decide +kernel)
set_option maxRecDepth 20000 in
theorem gq_refuses_wsL_refuses_r13 : GoodIn wsL_law wsL_refuses_r13 := goodIn_r _ [455, 456, 457, 458, 459, 460, 461, 462, 463, 464, 465, 466, 467, 468, 469, 470, 471, 472, 473, 474, 475, 476, 477, 478] rfl (by decide +kernel)
set_option maxRecDepth 20000 in
theorem gq_refuses_wsL_refuses_r14 : GoodIn wsL_law wsL_refuses_r14 := goodIn_r _ [479, 480, 481, 482, 483, 484, 485, 486, 487, 488, 489, 490, 491, 492, 493, 494, 495, 496, 497, 498, 499, 500, 501, 502] rfl (by decide +kernel)
set_option maxRecDepth 20000 in
theorem gq_refuses_wsL_refuses_r15 : GoodIn wsL_law wsL_refuses_r15 := goodIn_r _ [503, 504, 505, 506, 507, 508, 509, 510, 116, 117, 118, 511, 512, 513, 514, 515, 516, 517, 518, 519, 520, 521, 522, 523] rfl (by decide +kernel)
