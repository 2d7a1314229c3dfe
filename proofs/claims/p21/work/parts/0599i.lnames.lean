/-! the law: words of calls: law L_acts -/
set_option maxRecDepth 20000 in
theorem ggL_law_L_acts_r1 : GoodIn wsL_law wsL_acts_r1 := goodIn_r _ [60, 61, 37, 62, 63, 64, 65, 66, 67, 68, 69, 70, 39, 71, 72, 40, 73, 74, 75, 76, 2, 77, 78, 79] (by decide +kernel) (by decide +kernel)
set_option maxRecDepth 20000 in
theorem ggL_law_L_acts_r2 : GoodIn wsL_law wsL_acts_r2 := goodIn_r _ [80, 81, 12, 11, 10, 82, 83, 46, 47, 48, 49, 50, 51, 14, 84, 85, 86, 87, 88, 89, 90, 8, 9, 91] (by decide +kernel) (by decide +kernel)
set_option maxRecDepth 20000 in
theorem ggL_law_L_acts_r3 : GoodIn wsL_law wsL_acts_r3 := goodIn_r _ [92, 93, 94, 95, 96, 97, 98, 99, 100, 101, 102, 103, 104, 17, 105, 106, 107, 108, 45, 109, 110, 111, 112, 113] (by decide +kernel) (by decide +kernel)
set_option maxRecDepth 20000 in
theorem ggL_law_L_acts_r4 : GoodIn wsL_law wsL_acts_r4 := goodIn_r _ [114, 115, 116, 117, 118, 119, 120, 121, 122, 123, 124, 125, 126, 127, 128, 129, 130, 131, 132, 133, 134, 135, 136, 137] (by decide +kernel) (by decide +kernel)
set_option maxRecDepth 20000 in
theorem ggL_law_L_acts_r5 : GoodIn wsL_law wsL_acts_r5 := goodIn_r _ [138, 139, 140, 141, 142, 143, 144, 145, 146, 147, 148, 149, 150, 151, 152, 153, 154, 155, 156, 157, 158, 159, 160, 161] (by decide +kernel) (by decide +kernel)
set_option maxRecDepth 20000 in
theorem ggL_law_L_acts_r6 : GoodIn wsL_law wsL_acts_r6 := goodIn_r _ [162, 163, 164, 165, 166, 167, 168, 16, 169, 29, 28, 170, 171, 172, 173, 174, 175, 176, 177, 178, 179, 180, 181, 182] (by decide +kernel) (by decide +kernel)
set_option maxRecDepth 20000 in
theorem ggL_law_L_acts_r7 : GoodIn wsL_law wsL_acts_r7 := goodIn_r _ [183, 184, 185, 186, 187, 188, 189, 190, 23, 191, 192, 193, 194, 195, 196, 197, 198, 199, 200, 201, 202, 203, 204, 205] (by decide +kernel) (by decide +kernel)
set_option maxRecDepth 20000 in
theorem ggL_law_L_acts_r8 : GoodIn wsL_law wsL_acts_r8 := goodIn_r _ [206, 207, 208, 209, 210, 211, 212, 213, 214, 215, 216, 217, 218, 219, 220, 221, 222, 223, 224, 225, 226, 227, 228, 229] (by decide +kernel) (by decide +kernel)
set_option maxRecDepth 20000 in
theorem ggL_law_L_acts_r9 : GoodIn wsL_law wsL_acts_r9 := goodIn_r _ [230, 231, 232, 233, 234, 235, 236, 237, 238, 239, 240, 241, 242, 243, 244, 245, 246, 247, 248, 249, 250, 251, 252, 253] (by decide +kernel) (by decide +kernel)
set_option maxRecDepth 20000 in
theorem ggL_law_L_acts_r10 : GoodIn wsL_law wsL_acts_r10 := goodIn_r _ [254, 255, 256, 257, 258, 259, 260, 261, 262, 263, 264, 265, 266, 267, 268, 269, 270, 271, 272, 273, 274, 275, 276, 277] (by decide +kernel) (by decide +kernel)
set_option maxRecDepth 20000 in
theorem ggL_law_L_acts_r11 : GoodIn wsL_law wsL_acts_r11 := goodIn_r _ [278, 279, 280, 281, 282, 283, 284, 285, 286, 287, 288, 289, 290, 291, 292, 293, 294, 295, 296, 297, 298, 299, 300, 301] (by decide +kernel) (by decide +kernel)
set_option maxRecDepth 20000 in
theorem ggL_law_L_acts_r12 : GoodIn wsL_law wsL_acts_r12 := goodIn_r _ [302, 24, 22, 303, 304, 305, 306, 307, 308, 35, 36, 38, 41, 42, 43, 44, 309, 310, 311, 312, 313, 314, 315, 316] (by decide +kernel) (by decide +kernel)
set_option maxRecDepth 20000 in
theorem ggL_law_L_acts_r13 : GoodIn wsL_law wsL_acts_r13 := goodIn_r _ [317, 318, 319, 320, 321, 322, 323, 324, 325, 326, 327, 328, 329, 330, 331, 332, 333, 21, 334, 335, 336, 337, 20, 338] (by decide +kernel) (by decide +kernel)
set_option maxRecDepth 20000 in
theorem ggL_law_L_acts_r14 : GoodIn wsL_law wsL_acts_r14 := goodIn_r _ [34, 33, 339, 340, 341, 342, 343, 344, 345, 346, 347, 348, 349, 350, 351, 352, 353, 354, 355, 356, 357, 358, 359, 360] (by decide +kernel) (by decide +kernel)
set_option maxRecDepth 20000 in
theorem ggL_law_L_acts_r15 : GoodIn wsL_law wsL_acts_r15 := goodIn_r _ [361, 362, 363, 364, 365, 366, 367, 368, 369, 370, 371, 372, 373, 374, 375, 376, 377, 378, 379, 380, 381, 382, 383, 384] (by decide +kernel) (by decide +kernel)
set_option maxRecDepth 20000 in
theorem ggL_law_L_acts_r16 : GoodIn wsL_law wsL_acts_r16 := goodIn_r _ [385, 386, 387, 388, 389, 390, 391, 392, 393, 394, 395, 396, 397, 398, 399, 400, 401, 402, 403, 404, 405, 406, 407, 408] (by decide +kernel) (by decide +kernel)
set_option maxRecDepth 20000 in
theorem ggL_law_L_acts_r17 : GoodIn wsL_law wsL_acts_r17 := goodIn_r _ [409, 410, 411, 412, 413, 414, 415, 416, 417, 418, 419, 420, 421, 422, 423, 424, 425, 426, 427, 428, 429, 430] (by decide +kernel) (by decide +kernel)
set_option maxRecDepth 20000 in
theorem ggL_law_L_acts_wsX40 : GoodIn wsL_law wsX40 := goodIn_r _ [431, 432, 433, 434, 435, 436, 437] (by decide +kernel) (by decide +kernel)
set_option maxRecDepth 20000 in
theorem ggL_law_L_acts_wsX10 : GoodIn wsL_law wsX10 := goodIn_r _ [442, 443, 444, 445, 446, 447, 448, 449, 450, 451] (by decide +kernel) (by decide +kernel)
set_option maxRecDepth 20000 in
theorem ggL_law_L_acts_wsX30 : GoodIn wsL_law wsX30 := goodIn_r _ [438, 439] (by decide +kernel) (by decide +kernel)
set_option maxRecDepth 20000 in
theorem ggL_law_L_acts_wsX00 : GoodIn wsL_law wsX00 := goodIn_r _ [452, 453, 454] (by decide +kernel) (by decide +kernel)
set_option maxRecDepth 20000 in
theorem ggL_law_L_acts_wsX20 : GoodIn wsL_law wsX20 := goodIn_r _ [440, 441] (by decide +kernel) (by decide +kernel)
set_option maxRecDepth 20000 in
theorem ggL_law_L_acts : GoodIn wsL_law wsL_acts := goodIn_ca (goodIn_ca (goodIn_ca (goodIn_app (a := [.code yL_acts cL_acts 8 (some .boolean)]) (goodIn_r _ [59] (by decide +kernel) (by decide +kernel)) (goodIn_app (goodIn_app (goodIn_app (goodIn_app (goodIn_app (goodIn_app ggL_law_L_acts_r1 (goodIn_app ggL_law_L_acts_r2 (goodIn_app ggL_law_L_acts_r3 (goodIn_app ggL_law_L_acts_r4 (goodIn_app ggL_law_L_acts_r5 (goodIn_app ggL_law_L_acts_r6 (goodIn_app ggL_law_L_acts_r7 (goodIn_app ggL_law_L_acts_r8 (goodIn_app ggL_law_L_acts_r9 (goodIn_app ggL_law_L_acts_r10 (goodIn_app ggL_law_L_acts_r11 (goodIn_app ggL_law_L_acts_r12 (goodIn_app ggL_law_L_acts_r13 (goodIn_app ggL_law_L_acts_r14 (goodIn_app ggL_law_L_acts_r15 (goodIn_app ggL_law_L_acts_r16 ggL_law_L_acts_r17)))))))))))))))) ggL_law_L_acts_wsX40) ggL_law_L_acts_wsX10) ggL_law_L_acts_wsX30) ggL_law_L_acts_wsX00) ggL_law_L_acts_wsX20)) (goodIn_sub (fun _ h => List.mem_append_left _ (List.mem_append_right _ h)) (by decide +kernel))) (goodIn_sub (fun _ h => List.mem_append_right _ h) (by decide +kernel))) (goodIn_sub (fun _ h => List.mem_append_left _ (List.mem_append_left _ (List.mem_append_right _ h))) (by decide +kernel))
set_option maxRecDepth 20000 in
theorem gL_law_L_acts : GoodIn wsL_law (va_wsS RL 161 yL_acts wsL_acts) := goodIn_app (goodIn_of _ (by decide +kernel)) ggL_law_L_acts
