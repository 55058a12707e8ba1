set_option maxRecDepth 20000 in
theorem ggL_law_X9_init : GoodIn wsL_law wsX9_init := goodIn_r _ [10, 11, 12, 13, 14, 15, 16, 17, 18, 19, 20, 21, 22, 23, 24, 25, 26, 27, 28, 29, 30, 31, 32, 33, 34, 35, 36, 37, 38, 39, 40, 41, 42, 43, 44, 45, 46, 47, 48, 49, 50, 51, 52, 53, 54, 55, 56, 57, 58, 59, 60, 61, 62, 63, 64, 65, 66, 67, 68, 69, 70, 71, 72, 73, 74, 75, 76, 77, 78, 79, 80, 81, 82, 83, 84, 85, 86, 87, 88, 89, 90, 91, 92, 93, 94, 95, 96, 97, 98, 99, 100, 101, 102, 103, 104, 105, 106, 107, 108, 109, 110, 111, 112, 113, 114, 115, 116, 117, 118, 119, 120, 121, 122, 123, 124, 125, 126, 127, 128, 129, 130, 131, 132, 133, 134, 135, 136, 137, 138, 139, 992, 993, 994, 995, 996, 997, 998, 972, 973, 974, 975, 976, 999, 1000, 1001, 1002, 1003, 1004, 1005, 1006, 1007, 1008, 1009, 1010, 1011, 1012, 1013, 1014, 1015, 1016, 1017, 1018, 1019, 1020, 1021, 1022, 1023, 1024, 1025, 1026, 1027, 1028] (by decide +kernel) (by decide +kernel)
set_option maxRecDepth 20000 in
theorem gL_law_X9_init : GoodIn wsL_law (wsX9_init) := ggL_law_X9_init
set_option maxRecDepth 20000 in
theorem ggL_law_X10_init : GoodIn wsL_law wsX10_init := goodIn_r _ [142, 143, 12, 13, 34, 144, 145, 146, 147, 148, 149, 36, 150, 6, 151, 152, 153, 154, 155, 156, 5, 157, 158, 977, 978, 979, 980, 981, 982, 983, 984, 985, 986, 987, 988, 989, 990, 991] (by decide +kernel) (by decide +kernel)
set_option maxRecDepth 20000 in
theorem gL_law_X10_init : GoodIn wsL_law (wsX10_init) := ggL_law_X10_init
set_option maxRecDepth 20000 in
theorem ggL_law_L_append : GoodIn wsL_law wsL_append := goodIn_ca (goodIn_ca (goodIn_r _ [162, 163, 164, 165, 166, 167, 2, 168, 169, 170, 17, 171, 172, 173, 174, 175, 176, 177, 178, 179, 16, 180, 181, 35, 972, 973, 974, 975, 976, 992, 993, 994, 995, 996, 997, 998] (by decide +kernel) (by decide +kernel)) (goodIn_sub (fun _ h => List.mem_append_left _ (List.mem_append_left _ (List.mem_append_right _ h))) (by decide +kernel))) (goodIn_sub (fun _ h => List.mem_append_left _ (List.mem_append_right _ h)) (by decide +kernel))
set_option maxRecDepth 20000 in
theorem gL_law_L_append : GoodIn wsL_law (va_wsS RL 108 yL_append wsL_append) := goodIn_app (goodIn_of _ (by decide +kernel)) ggL_law_L_append
set_option maxRecDepth 20000 in
theorem ggL_law_X10_append : GoodIn wsL_law wsX10_append := goodIn_r _ [185, 186, 187, 144, 188, 189, 5, 190, 191, 192, 193, 194, 195, 977, 978, 979, 980, 981, 982, 983, 984, 985, 986, 987, 988, 989, 990, 991] (by decide +kernel) (by decide +kernel)
set_option maxRecDepth 20000 in
theorem gL_law_X10_append : GoodIn wsL_law (wsV RL 113 RX10 yX10_append wsX10_append) := goodIn_app (goodIn_of _ (by decide +kernel)) ggL_law_X10_append
set_option maxRecDepth 20000 in
theorem ggL_law_X10_thrown : GoodIn wsL_law wsX10_thrown := goodIn_r _ [199, 195, 977, 978, 979, 980, 981, 982, 983, 984, 985, 986, 987, 988, 989, 990, 991] (by decide +kernel) (by decide +kernel)
set_option maxRecDepth 20000 in
theorem gL_law_X10_thrown : GoodIn wsL_law (wsV RL 114 RX10 yX10_thrown wsX10_thrown) := goodIn_app (goodIn_of _ (by decide +kernel)) ggL_law_X10_thrown
set_option maxRecDepth 20000 in
theorem ggL_law_X9_clearText : GoodIn wsL_law wsX9_clearText := goodIn_r _ [203, 17, 171, 972, 973, 974, 975, 976, 992, 993, 994, 995, 996, 997, 998] (by decide +kernel) (by decide +kernel)
set_option maxRecDepth 20000 in
theorem gL_law_X9_clearText : GoodIn wsL_law (wsV RL 117 RX9 yX9_clearText wsX9_clearText) := goodIn_app (goodIn_of _ (by decide +kernel)) ggL_law_X9_clearText
set_option maxRecDepth 20000 in
theorem ggL_law_X10_clearText : GoodIn wsL_law wsX10_clearText := goodIn_r _ [207, 195, 187, 977, 978, 979, 980, 981, 982, 983, 984, 985, 986, 987, 988, 989, 990, 991] (by decide +kernel) (by decide +kernel)
set_option maxRecDepth 20000 in
theorem gL_law_X10_clearText : GoodIn wsL_law (wsV RL 120 RX10 yX10_clearText wsX10_clearText) := goodIn_app (goodIn_of _ (by decide +kernel)) ggL_law_X10_clearText
set_option maxRecDepth 20000 in
theorem ggL_law_X9_errorPosition : GoodIn wsL_law wsX9_errorPosition := goodIn_r _ [211, 17, 22, 212, 213, 214, 16, 215, 216, 181, 217, 218, 77, 78, 20, 79, 80, 45, 49, 53, 56, 81, 82, 83, 44, 84, 85, 86, 87, 88, 89, 90, 91, 92, 93, 94, 95, 96, 97, 98, 48, 99, 65, 100, 101, 102, 103, 104, 105, 52, 106, 69, 107, 108, 109, 110, 111, 112, 54, 113, 114, 115, 58, 116, 117, 118, 119, 120, 121, 122, 123, 124, 219, 220, 221, 222, 223, 224, 225, 37, 226, 227, 228, 229, 230, 231, 232, 233, 234, 235, 236, 237, 35, 238, 239, 240, 241, 242, 243, 244, 245, 246, 247, 248, 249, 250, 251, 252, 253, 254, 255, 256, 257, 258, 259, 260, 261, 262, 263, 264, 265, 266, 972, 973, 974, 975, 976, 992, 993, 994, 995, 996, 997, 998, 999, 1000, 1001, 1002, 1003, 1004, 1009, 1010, 1011, 1012, 1013, 1014, 1015, 1016, 1017, 1018, 1019, 1020, 1021, 1022, 1023, 1024, 1025, 1026, 1027, 1028] (by decide +kernel) (by decide +kernel)
set_option maxRecDepth 20000 in
theorem gL_law_X9_errorPosition : GoodIn wsL_law (wsV RL 121 RX9 yX9_errorPosition wsX9_errorPosition) := goodIn_app (goodIn_of _ (by decide +kernel)) ggL_law_X9_errorPosition
set_option maxRecDepth 20000 in
theorem ggL_law_X10_errorPosition : GoodIn wsL_law wsX10_errorPosition := goodIn_r _ [270, 195, 158, 271, 272, 273, 274, 5, 275, 145, 187, 155, 156, 157, 276, 277, 278, 279, 144, 280, 281, 282, 283, 284, 188, 189, 190, 285, 286, 287, 288, 289, 290, 291, 292, 977, 978, 979, 980, 981, 982, 983, 984, 985, 986, 987, 988, 989, 990, 991] (by decide +kernel) (by decide +kernel)
set_option maxRecDepth 20000 in
theorem gL_law_X10_errorPosition : GoodIn wsL_law (wsV RL 124 RX10 yX10_errorPosition wsX10_errorPosition) := goodIn_app (goodIn_of _ (by decide +kernel)) ggL_law_X10_errorPosition
set_option maxRecDepth 20000 in
theorem ggL_law_L_load : GoodIn wsL_law wsL_load := goodIn_ca (goodIn_r _ [295, 164, 296, 297, 298, 2, 299, 169, 170, 17, 22, 300, 21, 26, 30, 212, 213, 214, 16, 215, 216, 181, 217, 218, 77, 78, 20, 79, 80, 45, 49, 53, 56, 81, 82, 83, 44, 84, 85, 86, 87, 88, 89, 90, 91, 92, 93, 94, 95, 96, 97, 98, 48, 99, 65, 100, 101, 102, 103, 104, 105, 52, 106, 69, 107, 108, 109, 110, 111, 112, 54, 113, 114, 115, 58, 116, 117, 118, 119, 120, 121, 122, 123, 124, 219, 220, 221, 222, 223, 224, 225, 37, 226, 227, 228, 229, 230, 231, 232, 233, 234, 235, 236, 237, 35, 238, 239, 240, 241, 242, 243, 244, 245, 246, 247, 248, 249, 250, 251, 252, 253, 254, 255, 256, 257, 258, 259, 260, 261, 262, 263, 264, 265, 266, 301, 302, 303, 304, 305, 306, 307, 308, 309, 310, 311, 312, 313, 314, 315, 316, 317, 318, 319, 320, 321, 322, 70, 71, 72, 323, 324, 325, 326, 327, 328, 329, 25, 330, 331, 332, 333, 334, 29, 335, 138, 336, 337, 338, 339, 340, 341, 972, 973, 974, 975, 976, 992, 993, 994, 995, 996, 997, 998, 999, 1000, 1001, 1002, 1003, 1004, 1009, 1010, 1011, 1012, 1013, 1014, 1015, 1016, 1017, 1018, 1019, 1020, 1021, 1022, 1023, 1024, 1025, 1026, 1027, 1028, 1005, 1006, 1007, 1008] (by decide +kernel) (by decide +kernel)) (goodIn_sub (fun _ h => List.mem_append_left _ (List.mem_append_left _ (List.mem_append_right _ h))) (by decide +kernel))
set_option maxRecDepth 20000 in
theorem gL_law_L_load : GoodIn wsL_law (va_wsS RL 125 yL_load wsL_load) := goodIn_app (goodIn_of _ (by decide +kernel)) ggL_law_L_load
set_option maxRecDepth 20000 in
theorem ggL_law_X10_load : GoodIn wsL_law wsX10_load := goodIn_r _ [345, 145, 146, 151, 346, 150, 272, 273, 274, 5, 275, 271, 158, 187, 155, 156, 157, 276, 277, 278, 279, 144, 280, 281, 282, 283, 284, 188, 189, 190, 285, 286, 287, 288, 289, 290, 291, 292, 191, 192, 193, 194, 195, 347, 348, 349, 350, 351, 352, 977, 978, 979, 980, 981, 982, 983, 984, 985, 986, 987, 988, 989, 990, 991] (by decide +kernel) (by decide +kernel)
set_option maxRecDepth 20000 in
theorem gL_law_X10_load : GoodIn wsL_law (wsV RL 128 RX10 yX10_load wsX10_load) := goodIn_app (goodIn_of _ (by decide +kernel)) ggL_law_X10_load
set_option maxRecDepth 20000 in
theorem ggL_law_L_about : GoodIn wsL_law wsL_about := goodIn_ca (goodIn_r _ [355, 163, 356, 357, 358, 2, 359, 21, 172, 173, 174, 175, 176, 360, 361, 362, 20, 363, 80, 45, 364, 365, 366, 367, 368, 49, 369, 370, 53, 371, 372, 373, 374, 375, 376, 377, 378, 379, 380, 48, 381, 100, 101, 382, 383, 384, 385, 56, 386, 387, 388, 389, 390, 391, 392, 393, 58, 394, 123, 124, 118, 972, 973, 974, 975, 976, 999, 1000, 1001, 1002, 1003, 1004, 1009, 1010, 1011, 1012, 1013, 1014, 1015, 1016, 1017, 1018, 1019, 1020, 1021, 1022, 1023, 1024, 1025, 1026, 1027, 1028] (by decide +kernel) (by decide +kernel)) (goodIn_sub (fun _ h => List.mem_append_left _ (List.mem_append_right _ h)) (by decide +kernel))
set_option maxRecDepth 20000 in
theorem gL_law_L_about : GoodIn wsL_law (va_wsS RL 129 yL_about wsL_about) := goodIn_app (goodIn_of _ (by decide +kernel)) ggL_law_L_about
set_option maxRecDepth 20000 in
theorem ggL_law_X10_about : GoodIn wsL_law wsX10_about := goodIn_r _ [398, 399, 146, 188, 189, 5, 190, 191, 192, 193, 194, 195, 400, 401, 402, 403, 404, 405, 406, 407, 408, 977, 978, 979, 980, 981, 982, 983, 984, 985, 986, 987, 988, 989, 990, 991] (by decide +kernel) (by decide +kernel)
set_option maxRecDepth 20000 in
theorem gL_law_X10_about : GoodIn wsL_law (wsV RL 131 RX10 yX10_about wsX10_about) := goodIn_app (goodIn_of _ (by decide +kernel)) ggL_law_X10_about
set_option maxRecDepth 20000 in
theorem ggL_law_L_account : GoodIn wsL_law wsL_account := goodIn_ca (goodIn_r _ [411, 163, 412, 413, 414, 2, 415, 21, 416, 417, 418, 419, 420, 172, 173, 174, 175, 176, 972, 973, 974, 975, 976, 999, 1000, 1001, 1002, 1003, 1004, 1016, 1017, 1018, 1019, 1009, 1010, 1011, 1012, 1013, 1014, 1015] (by decide +kernel) (by decide +kernel)) (goodIn_sub (fun _ h => List.mem_append_left _ (List.mem_append_right _ h)) (by decide +kernel))
set_option maxRecDepth 20000 in
theorem gL_law_L_account : GoodIn wsL_law (va_wsS RL 132 yL_account wsL_account) := goodIn_app (goodIn_of _ (by decide +kernel)) ggL_law_L_account
set_option maxRecDepth 20000 in
theorem ggL_law_X10_account : GoodIn wsL_law wsX10_account := goodIn_r _ [424, 425, 146, 151, 188, 189, 5, 190, 191, 192, 193, 194, 195, 977, 978, 979, 980, 981, 982, 983, 984, 985, 986, 987, 988, 989, 990, 991] (by decide +kernel) (by decide +kernel)
set_option maxRecDepth 20000 in
theorem gL_law_X10_account : GoodIn wsL_law (wsV RL 134 RX10 yX10_account wsX10_account) := goodIn_app (goodIn_of _ (by decide +kernel)) ggL_law_X10_account
set_option maxRecDepth 20000 in
theorem ggL_law_L_register : GoodIn wsL_law wsL_register := goodIn_ca (goodIn_r _ [428, 429, 430, 431, 432, 2, 433, 21, 434, 435, 436, 437, 438, 439, 972, 973, 974, 975, 976, 999, 1000, 1001, 1002, 1003, 1004] (by decide +kernel) (by decide +kernel)) (goodIn_sub (fun _ h => List.mem_append_right _ h) (by decide +kernel))
set_option maxRecDepth 20000 in
theorem gL_law_L_register : GoodIn wsL_law (va_wsS RL 135 yL_register wsL_register) := goodIn_app (goodIn_of _ (by decide +kernel)) ggL_law_L_register
set_option maxRecDepth 20000 in
theorem ggL_law_X10_register : GoodIn wsL_law wsX10_register := goodIn_r _ [443, 146, 444, 445, 5, 446, 447, 188, 189, 190, 191, 192, 193, 194, 195, 977, 978, 979, 980, 981, 982, 983, 984, 985, 986, 987, 988, 989, 990, 991] (by decide +kernel) (by decide +kernel)
