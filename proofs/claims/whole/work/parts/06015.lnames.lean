/-! the law: words of its calls, 5 -/
set_option maxRecDepth 20000 in
theorem ggL_law_X5_orderAnew : GoodIn wsL_law wsX5_orderAnew := goodIn_r _ [405, 406, 379, 380, 5, 381, 221, 56, 203, 204, 205, 206, 207, 208, 212, 213, 214, 215, 216, 223, 224, 225, 226, 202, 43, 52, 49, 227, 58, 228, 229, 230, 231, 232, 233, 234, 235, 236, 237, 238, 239, 240, 241, 242, 243, 244, 245, 246, 45, 47, 44, 46, 247, 248, 249, 250, 251, 252, 253, 254, 255, 256, 257, 258, 259, 260, 261, 262, 50, 621, 622, 623, 624, 625, 626, 627, 628, 629, 630, 631, 632, 633, 634, 635, 636, 637, 638, 639, 640, 641] (by decide +kernel) (by decide +kernel)
set_option maxRecDepth 20000 in
theorem gL_law_X5_orderAnew : GoodIn wsL_law (wsV RL 111 RX5 yX5_orderAnew wsX5_orderAnew) := goodIn_app (goodIn_of _ (by decide +kernel)) ggL_law_X5_orderAnew
set_option maxRecDepth 20000 in
theorem ggL_law_L_placeOf : GoodIn wsL_law wsL_placeOf := goodIn_ca (goodIn_r _ [409, 63, 410, 411, 412, 2, 413, 113, 155, 291, 292, 293, 294, 80, 81, 112, 115, 116, 117, 118, 14, 76, 77, 78, 79, 17, 414, 415, 416, 19, 417, 33, 177, 178, 179, 180, 32, 646, 647, 648, 649, 650, 651, 652, 653, 654, 655, 614, 615, 616, 617, 618, 619, 620, 642, 643] (by decide +kernel) (by decide +kernel)) (goodIn_sub (fun _ h => List.mem_append_right _ h) (by decide +kernel))
set_option maxRecDepth 20000 in
theorem gL_law_L_placeOf : GoodIn wsL_law (va_wsS RL 112 yL_placeOf wsL_placeOf) := goodIn_app (goodIn_of _ (by decide +kernel)) ggL_law_L_placeOf
set_option maxRecDepth 20000 in
theorem ggL_law_X5_placeOf : GoodIn wsL_law wsX5_placeOf := goodIn_r _ [421, 299, 300, 301, 5, 302, 202, 52, 206, 207, 208, 212, 213, 214, 215, 216, 422, 423, 424, 425, 43, 221, 56, 223, 224, 225, 226, 49, 227, 58, 228, 229, 230, 231, 232, 233, 234, 235, 236, 237, 238, 239, 240, 241, 242, 243, 244, 245, 246, 45, 47, 44, 46, 247, 248, 249, 250, 251, 252, 253, 254, 255, 256, 257, 258, 259, 260, 261, 262, 50, 621, 622, 623, 624, 625, 626, 627, 628, 629, 630, 631, 632, 633, 634, 635, 636, 637, 638, 639, 640, 641] (by decide +kernel) (by decide +kernel)
set_option maxRecDepth 20000 in
theorem gL_law_X5_placeOf : GoodIn wsL_law (wsV RL 114 RX5 yX5_placeOf wsX5_placeOf) := goodIn_app (goodIn_of _ (by decide +kernel)) ggL_law_X5_placeOf
set_option maxRecDepth 20000 in
theorem ggL_law_L_boxes : GoodIn wsL_law wsL_boxes := goodIn_ca (goodIn_r _ [428, 63, 429, 430, 431, 2, 432, 107, 76, 77, 78, 79, 80, 81, 17, 642, 643, 614, 615, 616, 617, 618, 619, 620] (by decide +kernel) (by decide +kernel)) (goodIn_sub (fun _ h => List.mem_append_right _ h) (by decide +kernel))
set_option maxRecDepth 20000 in
theorem gL_law_L_boxes : GoodIn wsL_law (va_wsS RL 115 yL_boxes wsL_boxes) := goodIn_app (goodIn_of _ (by decide +kernel)) ggL_law_L_boxes
set_option maxRecDepth 20000 in
theorem ggL_law_X5_boxes : GoodIn wsL_law wsX5_boxes := goodIn_r _ [436, 221, 203, 204, 5, 205, 206, 207, 208, 212, 213, 214, 215, 216, 223, 224, 225, 226, 202, 43, 52, 49, 227, 58, 228, 229, 230, 231, 232, 233, 234, 235, 236, 237, 238, 239, 240, 241, 242, 243, 244, 245, 246, 45, 47, 44, 46, 247, 248, 249, 250, 251, 252, 253, 254, 255, 256, 257, 258, 259, 260, 261, 262, 56, 50, 621, 622, 623, 624, 625, 626, 627, 628, 629, 630, 631, 632, 633, 634, 635, 636, 637, 638, 639, 640, 641] (by decide +kernel) (by decide +kernel)
set_option maxRecDepth 20000 in
theorem gL_law_X5_boxes : GoodIn wsL_law (wsV RL 117 RX5 yX5_boxes wsX5_boxes) := goodIn_app (goodIn_of _ (by decide +kernel)) ggL_law_X5_boxes
set_option maxRecDepth 20000 in
theorem ggL_law_L_about : GoodIn wsL_law wsL_about := goodIn_ca (goodIn_ca (goodIn_r _ [439, 63, 64, 440, 441, 442, 2, 443, 80, 81, 70, 71, 113, 289, 290, 287, 288, 444, 114, 156, 112, 115, 116, 117, 118, 14, 445, 446, 447, 155, 646, 647, 648, 649, 650, 651, 652, 653, 654, 655, 614, 615, 616, 617, 618, 619, 620] (by decide +kernel) (by decide +kernel)) (goodIn_sub (fun _ h => List.mem_append_right _ h) (by decide +kernel))) (goodIn_sub (fun _ h => List.mem_append_left _ (List.mem_append_left _ (List.mem_append_right _ h))) (by decide +kernel))
set_option maxRecDepth 20000 in
theorem gL_law_L_about : GoodIn wsL_law (va_wsS RL 118 yL_about wsL_about) := goodIn_app (goodIn_of _ (by decide +kernel)) ggL_law_L_about
set_option maxRecDepth 20000 in
theorem ggL_law_X5_about : GoodIn wsL_law wsX5_about := goodIn_r _ [451, 202, 43, 44, 45, 46, 47, 48, 52, 49, 50, 206, 207, 5, 208, 212, 213, 214, 215, 216, 621, 622, 623, 624, 625, 626, 627, 628, 629, 630, 631, 632, 633, 634, 635, 636, 637, 638, 639, 640, 641] (by decide +kernel) (by decide +kernel)
set_option maxRecDepth 20000 in
theorem gL_law_X5_about : GoodIn wsL_law (wsV RL 120 RX5 yX5_about wsX5_about) := goodIn_app (goodIn_of _ (by decide +kernel)) ggL_law_X5_about
set_option maxRecDepth 20000 in
theorem ggL_law_L_way : GoodIn wsL_law wsL_way := goodIn_ca (goodIn_r _ [454, 63, 455, 456, 457, 2, 458, 107, 459, 460, 133, 461, 76, 77, 78, 79, 80, 81, 17, 377, 178, 179, 19, 180, 33, 32, 115, 116, 117, 118, 14, 462, 463, 464, 75, 465, 94, 96, 466, 467, 468, 469, 95, 97, 642, 643, 614, 615, 616, 617, 618, 619, 620, 646, 647, 648, 649, 650, 651, 652, 653, 654, 655] (by decide +kernel) (by decide +kernel)) (goodIn_sub (fun _ h => List.mem_append_right _ h) (by decide +kernel))
set_option maxRecDepth 20000 in
theorem gL_law_L_way : GoodIn wsL_law (va_wsS RL 121 yL_way wsL_way) := goodIn_app (goodIn_of _ (by decide +kernel)) ggL_law_L_way
set_option maxRecDepth 20000 in
theorem ggL_law_X5_way : GoodIn wsL_law wsX5_way := goodIn_r _ [473, 221, 56, 44, 46, 45, 47, 203, 204, 5, 205, 206, 207, 208, 212, 213, 214, 215, 216, 223, 224, 225, 226, 202, 43, 52, 49, 227, 58, 228, 229, 230, 231, 232, 233, 234, 235, 236, 237, 238, 239, 240, 241, 242, 243, 244, 245, 246, 247, 248, 249, 250, 251, 252, 253, 254, 255, 256, 257, 258, 259, 260, 261, 262, 50, 474, 475, 476, 621, 622, 623, 624, 625, 626, 627, 628, 629, 630, 631, 632, 633, 634, 635, 636, 637, 638, 639, 640, 641] (by decide +kernel) (by decide +kernel)
set_option maxRecDepth 20000 in
theorem gL_law_X5_way : GoodIn wsL_law (wsV RL 123 RX5 yX5_way wsX5_way) := goodIn_app (goodIn_of _ (by decide +kernel)) ggL_law_X5_way
set_option maxRecDepth 20000 in
theorem ggL_law_L_faults : GoodIn wsL_law wsL_faults := goodIn_ca (goodIn_r _ [479, 63, 480, 481, 482, 2, 483, 113, 155, 291, 292, 293, 294, 80, 81, 112, 115, 116, 117, 118, 14, 76, 77, 78, 79, 17, 414, 415, 416, 19, 417, 33, 177, 178, 179, 180, 32, 484, 485, 486, 487, 444, 290, 377, 488, 489, 490, 75, 491, 98, 492, 493, 494, 495, 496, 497, 498, 499, 500, 501, 502, 503, 504, 505, 506, 107, 507, 508, 509, 510, 94, 96, 95, 511, 512, 513, 514, 97, 515, 646, 647, 648, 649, 650, 651, 652, 653, 654, 655, 614, 615, 616, 617, 618, 619, 620, 642, 643] (by decide +kernel) (by decide +kernel)) (goodIn_sub (fun _ h => List.mem_append_right _ h) (by decide +kernel))
set_option maxRecDepth 20000 in
theorem gL_law_L_faults : GoodIn wsL_law (va_wsS RL 124 yL_faults wsL_faults) := goodIn_app (goodIn_of _ (by decide +kernel)) ggL_law_L_faults
