/-! the law: words of its calls, 6 -/
set_option maxRecDepth 20000 in
theorem ggL_law_X5_faults : GoodIn wsL_law wsX5_faults := goodIn_r _ [519, 299, 300, 301, 5, 302, 202, 52, 206, 207, 208, 212, 213, 214, 215, 216, 422, 423, 424, 425, 43, 221, 56, 223, 224, 225, 226, 49, 227, 58, 228, 229, 230, 231, 232, 233, 234, 235, 236, 237, 238, 239, 240, 241, 242, 243, 244, 245, 246, 45, 47, 44, 46, 247, 248, 249, 250, 251, 252, 253, 254, 255, 256, 257, 258, 259, 260, 261, 262, 50, 520, 521, 522, 523, 524, 525, 526, 527, 48, 528, 529, 530, 531, 532, 533, 534, 535, 536, 537, 538, 539, 540, 541, 542, 543, 621, 622, 623, 624, 625, 626, 627, 628, 629, 630, 631, 632, 633, 634, 635, 636, 637, 638, 639, 640, 641] (by decide +kernel) (by decide +kernel)
set_option maxRecDepth 20000 in
theorem gL_law_X5_faults : GoodIn wsL_law (wsV RL 126 RX5 yX5_faults wsX5_faults) := goodIn_app (goodIn_of _ (by decide +kernel)) ggL_law_X5_faults
set_option maxRecDepth 20000 in
theorem ggL_law_L_faulty : GoodIn wsL_law wsL_faulty := goodIn_ca (goodIn_r _ [546, 63, 547, 548, 549, 2, 550, 107, 76, 77, 78, 79, 80, 81, 17, 484, 485, 486, 487, 444, 290, 377, 178, 179, 19, 180, 33, 32, 115, 116, 117, 118, 14, 488, 489, 490, 75, 491, 98, 492, 493, 494, 495, 496, 497, 498, 499, 500, 501, 502, 503, 504, 505, 506, 507, 508, 509, 510, 94, 96, 95, 511, 512, 513, 514, 97, 515, 642, 643, 614, 615, 616, 617, 618, 619, 620, 646, 647, 648, 649, 650, 651, 652, 653, 654, 655] (by decide +kernel) (by decide +kernel)) (goodIn_sub (fun _ h => List.mem_append_right _ h) (by decide +kernel))
set_option maxRecDepth 20000 in
theorem gL_law_L_faulty : GoodIn wsL_law (va_wsS RL 127 yL_faulty wsL_faulty) := goodIn_app (goodIn_of _ (by decide +kernel)) ggL_law_L_faulty
set_option maxRecDepth 20000 in
theorem ggL_law_X5_faulty : GoodIn wsL_law wsX5_faulty := goodIn_r _ [554, 221, 203, 204, 5, 205, 206, 207, 208, 212, 213, 214, 215, 216, 223, 224, 225, 226, 202, 43, 52, 49, 227, 58, 228, 229, 230, 231, 232, 233, 234, 235, 236, 237, 238, 239, 240, 241, 242, 243, 244, 245, 246, 45, 47, 44, 46, 247, 248, 249, 250, 251, 252, 253, 254, 255, 256, 257, 258, 259, 260, 261, 262, 56, 50, 520, 521, 522, 523, 524, 525, 526, 527, 48, 528, 529, 530, 531, 532, 533, 534, 535, 536, 537, 538, 539, 540, 541, 542, 543, 621, 622, 623, 624, 625, 626, 627, 628, 629, 630, 631, 632, 633, 634, 635, 636, 637, 638, 639, 640, 641] (by decide +kernel) (by decide +kernel)
set_option maxRecDepth 20000 in
theorem gL_law_X5_faulty : GoodIn wsL_law (wsV RL 129 RX5 yX5_faulty wsX5_faulty) := goodIn_app (goodIn_of _ (by decide +kernel)) ggL_law_X5_faulty
set_option maxRecDepth 20000 in
theorem ggL_law_L_approve : GoodIn wsL_law wsL_approve := goodIn_ca (goodIn_ca (goodIn_r _ [557, 63, 65, 558, 559, 560, 2, 561, 80, 81, 72, 73, 27, 107, 26, 25, 562, 194, 76, 77, 78, 79, 17, 563, 564, 565, 566, 11, 12, 196, 567, 197, 614, 615, 616, 617, 618, 619, 620, 642, 643, 656, 657, 658] (by decide +kernel) (by decide +kernel)) (goodIn_sub (fun _ h => List.mem_append_right _ h) (by decide +kernel))) (goodIn_sub (fun _ h => List.mem_append_left _ (List.mem_append_right _ h)) (by decide +kernel))
set_option maxRecDepth 20000 in
theorem gL_law_L_approve : GoodIn wsL_law (va_wsS RL 130 yL_approve wsL_approve) := goodIn_app (goodIn_of _ (by decide +kernel)) ggL_law_L_approve
set_option maxRecDepth 20000 in
theorem ggL_law_X5_approve : GoodIn wsL_law wsX5_approve := goodIn_r _ [571, 267, 53, 54, 206, 207, 5, 208, 203, 204, 205, 572, 573, 574, 575, 221, 223, 224, 225, 226, 202, 43, 52, 49, 227, 58, 228, 229, 230, 231, 232, 233, 234, 235, 236, 237, 238, 239, 240, 241, 242, 243, 244, 245, 246, 45, 47, 44, 46, 247, 248, 249, 250, 251, 252, 253, 254, 255, 256, 257, 258, 259, 260, 261, 262, 56, 50, 212, 213, 214, 215, 216, 621, 622, 623, 624, 625, 626, 627, 628, 629, 630, 631, 632, 633, 634, 635, 636, 637, 638, 639, 640, 641] (by decide +kernel) (by decide +kernel)
set_option maxRecDepth 20000 in
theorem gL_law_X5_approve : GoodIn wsL_law (wsV RL 132 RX5 yX5_approve wsX5_approve) := goodIn_app (goodIn_of _ (by decide +kernel)) ggL_law_X5_approve
set_option maxRecDepth 20000 in
theorem ggL_law_L_stands : GoodIn wsL_law wsL_stands := goodIn_ca (goodIn_r _ [578, 63, 579, 580, 581, 2, 582, 80, 81, 26, 190, 614, 615, 616, 617, 618, 619, 620, 656, 657, 658] (by decide +kernel) (by decide +kernel)) (goodIn_sub (fun _ h => List.mem_append_right _ h) (by decide +kernel))
set_option maxRecDepth 20000 in
theorem gL_law_L_stands : GoodIn wsL_law (va_wsS RL 133 yL_stands wsL_stands) := goodIn_app (goodIn_of _ (by decide +kernel)) ggL_law_L_stands
set_option maxRecDepth 20000 in
theorem ggL_law_X5_stands : GoodIn wsL_law wsX5_stands := goodIn_r _ [586, 267, 55, 206, 207, 5, 208, 212, 213, 214, 215, 216, 621, 622, 623, 624, 625, 626, 627, 628, 629, 630, 631, 632, 633, 634, 635, 636, 637, 638, 639, 640, 641] (by decide +kernel) (by decide +kernel)
set_option maxRecDepth 20000 in
theorem gL_law_X5_stands : GoodIn wsL_law (wsV RL 135 RX5 yX5_stands wsX5_stands) := goodIn_app (goodIn_of _ (by decide +kernel)) ggL_law_X5_stands
set_option maxRecDepth 20000 in
theorem ggL_law_L_approvers : GoodIn wsL_law wsL_approvers := goodIn_ca (goodIn_r _ [589, 63, 590, 591, 592, 2, 593, 26, 594, 76, 77, 78, 79, 80, 81, 17, 191, 192, 193, 194, 195, 196, 197, 614, 615, 616, 617, 618, 619, 620, 656, 657, 658] (by decide +kernel) (by decide +kernel)) (goodIn_sub (fun _ h => List.mem_append_right _ h) (by decide +kernel))
set_option maxRecDepth 20000 in
theorem gL_law_L_approvers : GoodIn wsL_law (va_wsS RL 136 yL_approvers wsL_approvers) := goodIn_app (goodIn_of _ (by decide +kernel)) ggL_law_L_approvers
set_option maxRecDepth 20000 in
theorem ggL_law_X5_approvers : GoodIn wsL_law wsX5_approvers := goodIn_r _ [598, 267, 54, 55, 53, 203, 204, 5, 205, 206, 207, 208, 212, 213, 214, 215, 216, 621, 622, 623, 624, 625, 626, 627, 628, 629, 630, 631, 632, 633, 634, 635, 636, 637, 638, 639, 640, 641] (by decide +kernel) (by decide +kernel)
set_option maxRecDepth 20000 in
theorem gL_law_X5_approvers : GoodIn wsL_law (wsV RL 138 RX5 yX5_approvers wsX5_approvers) := goodIn_app (goodIn_of _ (by decide +kernel)) ggL_law_X5_approvers
set_option maxRecDepth 20000 in
theorem ggL_law_L_breaks : GoodIn wsL_law wsL_breaks := goodIn_ca (goodIn_ca (goodIn_r _ [601, 63, 64, 602, 603, 604, 2, 605, 287, 288, 289, 290, 113, 20, 291, 292, 293, 294, 80, 81, 112, 115, 116, 117, 118, 14, 82, 83, 84, 70, 71, 103, 104, 105, 106, 107, 108, 109, 110, 111, 15, 114, 119, 120, 121, 122, 123, 124, 125, 126, 127, 128, 129, 130, 131, 132, 133, 134, 135, 136, 137, 138, 139, 140, 141, 75, 142, 95, 97, 94, 96, 143, 144, 145, 146, 147, 148, 149, 150, 151, 152, 153, 154, 155, 156, 157, 158, 159, 160, 161, 162, 163, 164, 92, 165, 166, 167, 19, 168, 33, 32, 169, 170, 171, 172, 76, 77, 78, 79, 17, 173, 174, 175, 176, 177, 178, 179, 180, 606, 607, 608, 609, 26, 191, 192, 193, 194, 195, 196, 197, 646, 647, 648, 649, 650, 651, 652, 653, 654, 655, 614, 615, 616, 617, 618, 619, 620, 642, 643, 656, 657, 658] (by decide +kernel) (by decide +kernel)) (goodIn_sub (fun _ h => List.mem_append_right _ h) (by decide +kernel))) (goodIn_sub (fun _ h => List.mem_append_left _ (List.mem_append_left _ (List.mem_append_right _ h))) (by decide +kernel))
set_option maxRecDepth 20000 in
theorem gL_law_L_breaks : GoodIn wsL_law (va_wsS RL 139 yL_breaks wsL_breaks) := goodIn_app (goodIn_of _ (by decide +kernel)) ggL_law_L_breaks
set_option maxRecDepth 20000 in
theorem ggL_law_X5_breaks : GoodIn wsL_law wsX5_breaks := goodIn_r _ [613, 46, 47, 44, 45, 43, 299, 300, 301, 5, 302, 202, 52, 206, 207, 208, 209, 210, 211, 212, 213, 214, 215, 216, 217, 218, 219, 220, 221, 222, 57, 56, 223, 224, 225, 226, 49, 227, 58, 228, 229, 230, 231, 232, 233, 234, 235, 236, 237, 238, 239, 240, 241, 242, 243, 244, 245, 246, 247, 248, 249, 250, 251, 252, 253, 254, 255, 256, 257, 258, 259, 260, 261, 262, 50, 268, 269, 270, 271, 272, 273, 274, 275, 267, 54, 55, 621, 622, 623, 624, 625, 626, 627, 628, 629, 630, 631, 632, 633, 634, 635, 636, 637, 638, 639, 640, 641] (by decide +kernel) (by decide +kernel)
set_option maxRecDepth 20000 in
theorem gL_law_X5_breaks : GoodIn wsL_law (wsV RL 141 RX5 yX5_breaks wsX5_breaks) := goodIn_app (goodIn_of _ (by decide +kernel)) ggL_law_X5_breaks
