/-! the law: words of calls: law L_isPage -/
set_option maxRecDepth 20000 in
theorem ggL_law_L_isPage_r1 : GoodIn wsL_law wsL_isPage_r1 := goodIn_r _ [35, 36, 37, 38, 39, 40, 41, 42, 43, 2, 44, 45, 46, 47, 48, 49, 50, 51, 14, 312, 313, 314, 315, 316] (by decide +kernel) (by decide +kernel)
set_option maxRecDepth 20000 in
theorem ggL_law_L_isPage_r2 : GoodIn wsL_law wsL_isPage_r2 := goodIn_r _ [317, 318, 319, 320, 321, 322, 179, 180, 16, 181, 29, 28, 323, 324, 325, 326, 327, 328, 329, 17, 330, 331, 332, 333] (by decide +kernel) (by decide +kernel)
set_option maxRecDepth 20000 in
theorem ggL_law_L_isPage_r3 : GoodIn wsL_law wsL_isPage_r3 := goodIn_r _ [21, 334, 109, 110, 111, 112, 12, 113, 114, 115, 116, 117, 118, 119, 11, 335, 336, 337, 20, 338, 34, 33, 339, 340] (by decide +kernel) (by decide +kernel)
set_option maxRecDepth 20000 in
theorem ggL_law_L_isPage_r4 : GoodIn wsL_law wsL_isPage_r4 := goodIn_r _ [341, 342, 124, 125, 126, 127, 128, 129, 130, 131, 132, 133, 134, 135, 136, 137, 138, 139, 140, 141, 142, 83, 143, 97] (by decide +kernel) (by decide +kernel)
set_option maxRecDepth 20000 in
theorem ggL_law_L_isPage_r5 : GoodIn wsL_law wsL_isPage_r5 := goodIn_r _ [99, 96, 98, 144, 145, 146, 147, 148, 149, 150, 151, 152, 153, 154, 155, 156, 157, 158, 159, 160, 161, 162, 163, 164] (by decide +kernel) (by decide +kernel)
set_option maxRecDepth 20000 in
theorem ggL_law_L_isPage_r6 : GoodIn wsL_law wsL_isPage_r6 := goodIn_r _ [165, 94, 166, 167, 168, 169, 343, 344, 345, 346, 347, 348, 349, 235, 236, 237, 238, 350, 351, 352, 353, 178, 354, 355] (by decide +kernel) (by decide +kernel)
set_option maxRecDepth 20000 in
theorem ggL_law_L_isPage_r7 : GoodIn wsL_law wsL_isPage_r7 := goodIn_r _ [356, 357, 213, 210, 358, 359, 360, 361, 100, 362, 363, 364, 365, 366, 367, 368, 369, 370, 371, 372, 373, 374, 375, 376] (by decide +kernel) (by decide +kernel)
set_option maxRecDepth 20000 in
theorem ggL_law_L_isPage_r8 : GoodIn wsL_law wsL_isPage_r8 := goodIn_r _ [377, 378, 379, 380, 381, 382, 383, 384, 385, 386, 387, 388, 389, 390, 391, 392, 202, 203, 204, 71, 73, 205, 206, 207] (by decide +kernel) (by decide +kernel)
set_option maxRecDepth 20000 in
theorem ggL_law_L_isPage_r9 : GoodIn wsL_law wsL_isPage_r9 := goodIn_r _ [208, 78, 79, 209, 211, 212, 214, 215, 216, 393, 394, 395, 396, 397, 398, 399, 400, 401, 402, 403, 404, 405, 406, 407] (by decide +kernel) (by decide +kernel)
set_option maxRecDepth 20000 in
theorem ggL_law_L_isPage_r10 : GoodIn wsL_law wsL_isPage_r10 := goodIn_r _ [408, 409, 410, 411, 412, 413, 414, 415, 416, 417] (by decide +kernel) (by decide +kernel)
set_option maxRecDepth 20000 in
theorem ggL_law_L_isPage_wsX30 : GoodIn wsL_law wsX30 := goodIn_r _ [438, 439] (by decide +kernel) (by decide +kernel)
set_option maxRecDepth 20000 in
theorem ggL_law_L_isPage_wsX40 : GoodIn wsL_law wsX40 := goodIn_r _ [431, 432, 433, 434, 435, 436, 437] (by decide +kernel) (by decide +kernel)
set_option maxRecDepth 20000 in
theorem ggL_law_L_isPage_wsX20 : GoodIn wsL_law wsX20 := goodIn_r _ [440, 441] (by decide +kernel) (by decide +kernel)
set_option maxRecDepth 20000 in
theorem ggL_law_L_isPage_wsX10 : GoodIn wsL_law wsX10 := goodIn_r _ [442, 443, 444, 445, 446, 447, 448, 449, 450, 451] (by decide +kernel) (by decide +kernel)
set_option maxRecDepth 20000 in
theorem ggL_law_L_isPage : GoodIn wsL_law wsL_isPage := goodIn_ca (goodIn_ca (goodIn_app (a := [.code yL_isPage cL_isPage 12 (some .boolean)]) (goodIn_r _ [311] (by decide +kernel) (by decide +kernel)) (goodIn_app (goodIn_app (goodIn_app (goodIn_app (goodIn_app ggL_law_L_isPage_r1 (goodIn_app ggL_law_L_isPage_r2 (goodIn_app ggL_law_L_isPage_r3 (goodIn_app ggL_law_L_isPage_r4 (goodIn_app ggL_law_L_isPage_r5 (goodIn_app ggL_law_L_isPage_r6 (goodIn_app ggL_law_L_isPage_r7 (goodIn_app ggL_law_L_isPage_r8 (goodIn_app ggL_law_L_isPage_r9 ggL_law_L_isPage_r10))))))))) ggL_law_L_isPage_wsX30) ggL_law_L_isPage_wsX40) ggL_law_L_isPage_wsX20) ggL_law_L_isPage_wsX10)) (goodIn_sub (fun _ h => List.mem_append_left _ (List.mem_append_left _ (List.mem_append_right _ h))) (by decide +kernel))) (goodIn_sub (fun _ h => List.mem_append_left _ (List.mem_append_right _ h)) (by decide +kernel))
set_option maxRecDepth 20000 in
theorem gL_law_L_isPage : GoodIn wsL_law (va_wsS RL 144 yL_isPage wsL_isPage) := goodIn_app (goodIn_of _ (by decide +kernel)) ggL_law_L_isPage
