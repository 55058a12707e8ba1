theorem goodIn_c1 {big a : List Cond} {c : Cond} (h1 : GoodIn big [c]) (h2 : GoodIn big a) : GoodIn big (c :: a) := fun w h => (List.mem_cons.mp h).elim (fun e => h1 w (List.mem_cons.mpr (Or.inl e))) (fun h => h2 w h)
set_option maxRecDepth 20000 in
theorem gq_refuses_c : GoodIn wsL_law [.code yL_refuses cL_refuses 4 (some .boolean)] := goodIn_r _ [290] rfl (by decide +kernel)
set_option maxRecDepth 20000 in
theorem gq_refuses_wsL_refuses_r1 : GoodIn wsL_law wsL_refuses_r1 := goodIn_r _ [201, 291, 292, 293, 3, 294, 196, 197, 198, 199, 200, 202, 203, 204, 2, 205, 17, 206, 207, 208, 209, 210, 211, 212] rfl (by decide +kernel)
set_option maxRecDepth 20000 in
theorem gq_refuses_wsL_refuses_r2 : GoodIn wsL_law wsL_refuses_r2 := goodIn_r _ [213, 16, 214, 76, 41, 215, 216, 217, 218, 219, 45, 220, 221, 49, 222, 223, 224, 225, 226, 227, 228, 229, 230, 231] rfl (by decide +kernel)
set_option maxRecDepth 20000 in
theorem gq_refuses_wsL_refuses_r3 : GoodIn wsL_law wsL_refuses_r3 := goodIn_r _ [44, 232, 96, 97, 233, 234, 235, 236, 52, 237, 238, 239, 240, 241, 242, 243, 244, 54, 245, 119, 120, 114, 295, 296] rfl (by decide +kernel)
set_option maxRecDepth 20000 in
theorem gq_refuses_wsL_refuses_r4 : GoodIn wsL_law wsL_refuses_r4 := goodIn_r _ [297, 298, 299, 300, 301, 302, 303, 304, 305, 306, 307, 308, 309, 310, 311, 312, 313, 314, 315, 316, 317, 318, 319, 320] rfl (by decide +kernel)
set_option maxRecDepth 20000 in
theorem gq_refuses_wsL_refuses_r5 : GoodIn wsL_law wsL_refuses_r5 := goodIn_r _ [321, 322, 323, 324, 325, 326, 327, 328, 329, 330, 331, 332, 333, 334, 335, 336, 337, 338, 339, 340, 48, 341, 66, 67] rfl (by decide +kernel)
set_option maxRecDepth 20000 in
theorem gq_refuses_wsL_refuses_r6 : GoodIn wsL_law wsL_refuses_r6 := goodIn_r _ [68, 342, 343, 344, 345, 346, 347, 348, 349, 350, 351, 352, 353, 354, 355, 356, 357, 22, 358, 359, 360, 361, 21, 362] rfl (by decide +kernel)
set_option maxRecDepth 20000 in
theorem gq_refuses_wsL_refuses_r7 : GoodIn wsL_law wsL_refuses_r7 := goodIn_r _ [261, 126, 363, 364, 365, 366, 262, 263, 264, 265, 50, 266, 267, 268, 269, 270, 271, 272, 40, 273, 89, 90, 91, 81] rfl (by decide +kernel)
