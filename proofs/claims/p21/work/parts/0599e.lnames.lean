/-! the law: words of calls: acts L_isPage -/
set_option maxRecDepth 20000 in
theorem ggL_acts_L_isPage_r1 : GoodIn wsL_acts wsL_isPage_r1 := goodIn_r _ [274, 275, 3, 276, 13, 16, 277, 278, 279, 21, 280, 67, 32, 33, 34, 35, 36, 37, 38, 284, 285, 286, 287, 288] (by decide +kernel) (by decide +kernel)
set_option maxRecDepth 20000 in
theorem ggL_acts_L_isPage_r2 : GoodIn wsL_acts wsL_isPage_r2 := goodIn_r _ [289, 290, 291, 292, 293, 294, 141, 142, 128, 143, 130, 131, 295, 296, 297, 298, 299, 300, 301, 62, 302, 303, 304, 305] (by decide +kernel) (by decide +kernel)
set_option maxRecDepth 20000 in
theorem ggL_acts_L_isPage_r3 : GoodIn wsL_acts wsL_isPage_r3 := goodIn_r _ [306, 307, 68, 69, 70, 71, 27, 72, 73, 74, 75, 76, 77, 78, 28, 308, 309, 310, 311, 312, 313, 314, 315, 316] (by decide +kernel) (by decide +kernel)
set_option maxRecDepth 20000 in
theorem ggL_acts_L_isPage_r4 : GoodIn wsL_acts wsL_isPage_r4 := goodIn_r _ [317, 318, 83, 84, 85, 86, 87, 88, 89, 90, 91, 92, 93, 94, 95, 96, 97, 98, 99, 100, 101, 31, 102, 54] (by decide +kernel) (by decide +kernel)
set_option maxRecDepth 20000 in
theorem ggL_acts_L_isPage_r5 : GoodIn wsL_acts wsL_isPage_r5 := goodIn_r _ [56, 53, 55, 103, 104, 105, 106, 107, 108, 109, 110, 111, 112, 113, 114, 115, 116, 117, 118, 119, 120, 121, 122, 123] (by decide +kernel) (by decide +kernel)
set_option maxRecDepth 20000 in
theorem ggL_acts_L_isPage_r6 : GoodIn wsL_acts wsL_isPage_r6 := goodIn_r _ [124, 51, 125, 126, 127, 129, 319, 320, 321, 322, 323, 324, 325, 198, 199, 200, 201, 326, 327, 328, 329, 140, 330, 331] (by decide +kernel) (by decide +kernel)
set_option maxRecDepth 20000 in
theorem ggL_acts_L_isPage_r7 : GoodIn wsL_acts wsL_isPage_r7 := goodIn_r _ [332, 333, 176, 173, 334, 335, 336, 337, 57, 338, 339, 340, 341, 342, 343, 344, 345, 346, 347, 348, 349, 350, 351, 352] (by decide +kernel) (by decide +kernel)
set_option maxRecDepth 20000 in
theorem ggL_acts_L_isPage_r8 : GoodIn wsL_acts wsL_isPage_r8 := goodIn_r _ [353, 354, 355, 356, 357, 358, 359, 360, 361, 362, 363, 364, 365, 366, 367, 368, 165, 166, 167, 14, 17, 168, 169, 170] (by decide +kernel) (by decide +kernel)
set_option maxRecDepth 20000 in
theorem ggL_acts_L_isPage_r9 : GoodIn wsL_acts wsL_isPage_r9 := goodIn_r _ [171, 23, 24, 172, 174, 175, 177, 178, 179, 369, 370, 371, 372, 373, 374, 375, 376, 377, 378, 379, 380, 381, 382, 383] (by decide +kernel) (by decide +kernel)
set_option maxRecDepth 20000 in
theorem ggL_acts_L_isPage_r10 : GoodIn wsL_acts wsL_isPage_r10 := goodIn_r _ [384, 385, 386, 387, 388, 389, 390, 391, 392, 393] (by decide +kernel) (by decide +kernel)
set_option maxRecDepth 20000 in
theorem ggL_acts_L_isPage_wsX30 : GoodIn wsL_acts wsX30 := goodIn_r _ [424, 425] (by decide +kernel) (by decide +kernel)
set_option maxRecDepth 20000 in
theorem ggL_acts_L_isPage_wsX40 : GoodIn wsL_acts wsX40 := goodIn_r _ [407, 408, 409, 410, 411, 412, 413] (by decide +kernel) (by decide +kernel)
set_option maxRecDepth 20000 in
theorem ggL_acts_L_isPage_wsX20 : GoodIn wsL_acts wsX20 := goodIn_r _ [429, 430] (by decide +kernel) (by decide +kernel)
set_option maxRecDepth 20000 in
theorem ggL_acts_L_isPage_wsX10 : GoodIn wsL_acts wsX10 := goodIn_r _ [414, 415, 416, 417, 418, 419, 420, 421, 422, 423] (by decide +kernel) (by decide +kernel)
set_option maxRecDepth 20000 in
theorem ggL_acts_L_isPage : GoodIn wsL_acts wsL_isPage := goodIn_ca (goodIn_ca (goodIn_app (a := [.code yL_isPage cL_isPage 12 (some .boolean)]) (goodIn_r _ [283] (by decide +kernel) (by decide +kernel)) (goodIn_app (goodIn_app (goodIn_app (goodIn_app (goodIn_app ggL_acts_L_isPage_r1 (goodIn_app ggL_acts_L_isPage_r2 (goodIn_app ggL_acts_L_isPage_r3 (goodIn_app ggL_acts_L_isPage_r4 (goodIn_app ggL_acts_L_isPage_r5 (goodIn_app ggL_acts_L_isPage_r6 (goodIn_app ggL_acts_L_isPage_r7 (goodIn_app ggL_acts_L_isPage_r8 (goodIn_app ggL_acts_L_isPage_r9 ggL_acts_L_isPage_r10))))))))) ggL_acts_L_isPage_wsX30) ggL_acts_L_isPage_wsX40) ggL_acts_L_isPage_wsX20) ggL_acts_L_isPage_wsX10)) (goodIn_sub (fun _ h => List.mem_cons_of_mem _ (List.mem_append_right _ h)) (by decide +kernel))) (goodIn_sub (fun _ h => List.mem_cons_of_mem _ (List.mem_append_left _ (List.mem_append_left _ (List.mem_append_right _ h)))) (by decide +kernel))
set_option maxRecDepth 20000 in
theorem gL_acts_L_isPage : GoodIn wsL_acts (va_wsS RL 144 yL_isPage wsL_isPage) := goodIn_app (goodIn_of _ (by decide +kernel)) ggL_acts_L_isPage
