/-! ===== whom the law calls, printed ===== -/
set_option maxRecDepth 20000 in
theorem ggL_law_L_child : GoodIn wsL_law wsL_child := goodIn_ca (goodIn_r _ [451, 185, 452, 453, 454, 2, 455, 64, 63, 211, 191, 192, 193, 194, 195, 196, 14, 197, 198, 199, 122, 123, 124, 20, 125, 71, 126, 127, 128, 129, 130, 131, 132, 133, 134, 135, 136, 137, 138, 139, 140, 141, 47, 803, 804, 805, 806, 807, 808, 809, 810, 811, 812, 813, 814, 815, 816, 817, 818, 819, 820, 821, 777, 778, 779, 780, 781, 782, 783, 822, 823, 824] (by decide +kernel) (by decide +kernel)) (goodIn_sub (fun _ h => List.mem_append_left _ (List.mem_append_left _ (List.mem_append_right _ h))) (by decide +kernel))
set_option maxRecDepth 20000 in
theorem gL_law_L_child : GoodIn wsL_law (va_wsS RL 122 yL_child wsL_child) := goodIn_app (goodIn_of _ (by decide +kernel)) ggL_law_L_child
set_option maxRecDepth 20000 in
theorem ggL_law_X8_child : GoodIn wsL_law wsX8_child := goodIn_r _ [459, 220, 169, 170, 222, 223, 224, 5, 225, 164, 166, 226, 227, 228, 229, 230, 231, 232, 784, 785, 786, 787, 788, 789, 790, 791, 792, 793, 794, 795, 796, 797, 798, 799, 800, 801, 802] (by decide +kernel) (by decide +kernel)
set_option maxRecDepth 20000 in
theorem gL_law_X8_child : GoodIn wsL_law (wsV RL 124 RX8 yX8_child wsX8_child) := goodIn_app (goodIn_of _ (by decide +kernel)) ggL_law_X8_child
set_option maxRecDepth 20000 in
theorem ggL_law_X7_count : GoodIn wsL_law wsX7_count := goodIn_r _ [463, 21, 122, 123, 124, 20, 125, 71, 777, 778, 779, 780, 781, 782, 783, 822, 823, 824] (by decide +kernel) (by decide +kernel)
set_option maxRecDepth 20000 in
theorem gL_law_X7_count : GoodIn wsL_law (wsV RL 125 RX7 yX7_count wsX7_count) := goodIn_app (goodIn_of _ (by decide +kernel)) ggL_law_X7_count
set_option maxRecDepth 20000 in
theorem ggL_law_X8_count : GoodIn wsL_law wsX8_count := goodIn_r _ [467, 220, 468, 469, 470, 5, 471, 164, 166, 784, 785, 786, 787, 788, 789, 790, 791, 792, 793, 794, 795, 796, 797, 798, 799, 800, 801, 802] (by decide +kernel) (by decide +kernel)
set_option maxRecDepth 20000 in
theorem gL_law_X8_count : GoodIn wsL_law (wsV RL 128 RX8 yX8_count wsX8_count) := goodIn_app (goodIn_of _ (by decide +kernel)) ggL_law_X8_count
set_option maxRecDepth 20000 in
theorem ggL_law_L_place : GoodIn wsL_law wsL_place := goodIn_ca (goodIn_ca (goodIn_r _ [474, 185, 248, 475, 476, 477, 2, 478, 420, 421, 191, 192, 193, 194, 195, 196, 14, 197, 198, 199, 259, 260, 261, 262, 263, 264, 265, 266, 59, 60, 61, 62, 21, 17, 63, 64, 65, 66, 67, 20, 68, 69, 70, 47, 71, 72, 73, 74, 75, 76, 77, 78, 79, 80, 81, 82, 83, 84, 85, 86, 87, 46, 88, 89, 90, 91, 92, 93, 94, 95, 96, 97, 98, 99, 100, 101, 102, 103, 104, 105, 106, 107, 108, 109, 110, 111, 112, 113, 114, 115, 116, 117, 118, 119, 120, 121, 122, 123, 124, 125, 126, 127, 128, 129, 130, 131, 132, 133, 134, 135, 136, 137, 138, 139, 140, 141, 142, 143, 144, 16, 145, 42, 33, 146, 34, 147, 148, 36, 149, 35, 150, 37, 151, 152, 153, 154, 155, 156, 157, 158, 159, 803, 804, 805, 806, 807, 808, 809, 810, 811, 812, 813, 814, 815, 816, 817, 818, 819, 820, 821, 777, 778, 779, 780, 781, 782, 783, 822, 823, 824] (by decide +kernel) (by decide +kernel)) (goodIn_sub (fun _ h => List.mem_append_left _ (List.mem_append_left _ (List.mem_append_right _ h))) (by decide +kernel))) (goodIn_sub (fun _ h => List.mem_append_right _ h) (by decide +kernel))
set_option maxRecDepth 20000 in
theorem gL_law_L_place : GoodIn wsL_law (va_wsS RL 129 yL_place wsL_place) := goodIn_app (goodIn_of _ (by decide +kernel)) ggL_law_L_place
set_option maxRecDepth 20000 in
theorem ggL_law_X8_place : GoodIn wsL_law wsX8_place := goodIn_r _ [482, 220, 172, 173, 222, 223, 224, 5, 225, 164, 166, 226, 227, 228, 229, 230, 231, 232, 289, 290, 291, 784, 785, 786, 787, 788, 789, 790, 791, 792, 793, 794, 795, 796, 797, 798, 799, 800, 801, 802] (by decide +kernel) (by decide +kernel)
set_option maxRecDepth 20000 in
theorem gL_law_X8_place : GoodIn wsL_law (wsV RL 131 RX8 yX8_place wsX8_place) := goodIn_app (goodIn_of _ (by decide +kernel)) ggL_law_X8_place
set_option maxRecDepth 20000 in
theorem ggL_law_L_setFill : GoodIn wsL_law wsL_setFill := goodIn_ca (goodIn_ca (goodIn_r _ [485, 185, 248, 486, 487, 488, 2, 489, 422, 191, 192, 193, 194, 195, 196, 14, 197, 198, 199, 262, 263, 264, 265, 266, 59, 60, 61, 62, 21, 17, 63, 64, 65, 66, 67, 20, 68, 69, 70, 47, 71, 72, 73, 74, 75, 76, 77, 78, 79, 80, 81, 82, 83, 84, 85, 86, 87, 46, 88, 89, 90, 91, 92, 93, 94, 95, 96, 97, 98, 99, 100, 101, 102, 103, 104, 105, 106, 107, 108, 109, 110, 111, 112, 113, 114, 115, 116, 117, 118, 119, 120, 121, 122, 123, 124, 125, 126, 127, 128, 129, 130, 131, 132, 133, 134, 135, 136, 137, 138, 139, 140, 141, 142, 143, 144, 16, 145, 42, 33, 146, 34, 147, 148, 36, 149, 35, 150, 37, 151, 152, 153, 154, 155, 156, 157, 158, 159, 803, 804, 805, 806, 807, 808, 809, 810, 811, 812, 813, 814, 815, 816, 817, 818, 819, 820, 821, 777, 778, 779, 780, 781, 782, 783, 822, 823, 824] (by decide +kernel) (by decide +kernel)) (goodIn_sub (fun _ h => List.mem_append_left _ (List.mem_append_left _ (List.mem_append_right _ h))) (by decide +kernel))) (goodIn_sub (fun _ h => List.mem_append_right _ h) (by decide +kernel))
set_option maxRecDepth 20000 in
theorem gL_law_L_setFill : GoodIn wsL_law (va_wsS RL 132 yL_setFill wsL_setFill) := goodIn_app (goodIn_of _ (by decide +kernel)) ggL_law_L_setFill
set_option maxRecDepth 20000 in
theorem ggL_law_X8_setFill : GoodIn wsL_law wsX8_setFill := goodIn_r _ [493, 220, 174, 222, 223, 224, 5, 225, 164, 166, 226, 227, 228, 229, 230, 231, 232, 784, 785, 786, 787, 788, 789, 790, 791, 792, 793, 794, 795, 796, 797, 798, 799, 800, 801, 802] (by decide +kernel) (by decide +kernel)
set_option maxRecDepth 20000 in
theorem gL_law_X8_setFill : GoodIn wsL_law (wsV RL 134 RX8 yX8_setFill wsX8_setFill) := goodIn_app (goodIn_of _ (by decide +kernel)) ggL_law_X8_setFill
set_option maxRecDepth 20000 in
theorem ggL_law_L_setOpacity : GoodIn wsL_law wsL_setOpacity := goodIn_ca (goodIn_ca (goodIn_r _ [496, 185, 248, 497, 498, 499, 2, 500, 424, 501, 191, 192, 193, 194, 195, 196, 14, 197, 198, 199, 262, 263, 264, 265, 266, 59, 60, 61, 62, 21, 17, 63, 64, 65, 66, 67, 20, 68, 69, 70, 47, 71, 72, 73, 74, 75, 76, 77, 78, 79, 80, 81, 82, 83, 84, 85, 86, 87, 46, 88, 89, 90, 91, 92, 93, 94, 95, 96, 97, 98, 99, 100, 101, 102, 103, 104, 105, 106, 107, 108, 109, 110, 111, 112, 113, 114, 115, 116, 117, 118, 119, 120, 121, 122, 123, 124, 125, 126, 127, 128, 129, 130, 131, 132, 133, 134, 135, 136, 137, 138, 139, 140, 141, 142, 143, 144, 16, 145, 42, 33, 146, 34, 147, 148, 36, 149, 35, 150, 37, 151, 152, 153, 154, 155, 156, 157, 158, 159, 803, 804, 805, 806, 807, 808, 809, 810, 811, 812, 813, 814, 815, 816, 817, 818, 819, 820, 821, 777, 778, 779, 780, 781, 782, 783, 822, 823, 824] (by decide +kernel) (by decide +kernel)) (goodIn_sub (fun _ h => List.mem_append_left _ (List.mem_append_left _ (List.mem_append_right _ h))) (by decide +kernel))) (goodIn_sub (fun _ h => List.mem_append_right _ h) (by decide +kernel))
set_option maxRecDepth 20000 in
theorem gL_law_L_setOpacity : GoodIn wsL_law (va_wsS RL 135 yL_setOpacity wsL_setOpacity) := goodIn_app (goodIn_of _ (by decide +kernel)) ggL_law_L_setOpacity
set_option maxRecDepth 20000 in
theorem ggL_law_X8_setOpacity : GoodIn wsL_law wsX8_setOpacity := goodIn_r _ [505, 220, 175, 176, 222, 223, 224, 5, 225, 164, 166, 226, 227, 228, 229, 230, 231, 232, 784, 785, 786, 787, 788, 789, 790, 791, 792, 793, 794, 795, 796, 797, 798, 799, 800, 801, 802] (by decide +kernel) (by decide +kernel)
set_option maxRecDepth 20000 in
theorem gL_law_X8_setOpacity : GoodIn wsL_law (wsV RL 138 RX8 yX8_setOpacity wsX8_setOpacity) := goodIn_app (goodIn_of _ (by decide +kernel)) ggL_law_X8_setOpacity
set_option maxRecDepth 20000 in
theorem ggL_law_L_setClip : GoodIn wsL_law wsL_setClip := goodIn_ca (goodIn_ca (goodIn_r _ [508, 185, 248, 509, 510, 511, 2, 512, 427, 256, 257, 258, 191, 192, 193, 194, 195, 196, 14, 197, 198, 199, 259, 260, 261, 262, 263, 264, 265, 266, 267, 268, 269, 270, 11, 12, 271, 272, 273, 274, 803, 804, 805, 806, 807, 808, 809, 810, 811, 812, 813, 814, 815, 816, 817, 818, 819, 820, 821, 827, 828, 829, 830, 777, 778, 779, 780, 781, 782, 783] (by decide +kernel) (by decide +kernel)) (goodIn_sub (fun _ h => List.mem_append_left _ (List.mem_append_left _ (List.mem_append_right _ h))) (by decide +kernel))) (goodIn_sub (fun _ h => List.mem_append_right _ h) (by decide +kernel))
set_option maxRecDepth 20000 in
theorem gL_law_L_setClip : GoodIn wsL_law (va_wsS RL 139 yL_setClip wsL_setClip) := goodIn_app (goodIn_of _ (by decide +kernel)) ggL_law_L_setClip
set_option maxRecDepth 20000 in
theorem ggL_law_X8_setClip : GoodIn wsL_law wsX8_setClip := goodIn_r _ [516, 220, 178, 22, 221, 119, 120, 121, 222, 223, 224, 5, 225, 164, 166, 226, 227, 228, 289, 290, 291, 784, 785, 786, 787, 788, 789, 790, 791, 792, 793, 794, 795, 796, 797, 798, 799, 800, 801, 802] (by decide +kernel) (by decide +kernel)
set_option maxRecDepth 20000 in
theorem gL_law_X8_setClip : GoodIn wsL_law (wsV RL 141 RX8 yX8_setClip wsX8_setClip) := goodIn_app (goodIn_of _ (by decide +kernel)) ggL_law_X8_setClip
set_option maxRecDepth 20000 in
theorem ggL_law_L_setMask : GoodIn wsL_law wsL_setMask := goodIn_ca (goodIn_ca (goodIn_r _ [519, 185, 186, 520, 521, 522, 2, 523, 204, 205, 206, 428, 191, 192, 193, 194, 195, 196, 14, 197, 198, 199, 803, 804, 805, 806, 807, 808, 809, 810, 811, 812, 813, 814, 815, 816, 817, 818, 819, 820, 821, 777, 778, 779, 780, 781, 782, 783] (by decide +kernel) (by decide +kernel)) (goodIn_sub (fun _ h => List.mem_append_left _ (List.mem_append_right _ h)) (by decide +kernel))) (goodIn_sub (fun _ h => List.mem_append_left _ (List.mem_append_left _ (List.mem_append_right _ h))) (by decide +kernel))
set_option maxRecDepth 20000 in
theorem gL_law_L_setMask : GoodIn wsL_law (va_wsS RL 142 yL_setMask wsL_setMask) := goodIn_app (goodIn_of _ (by decide +kernel)) ggL_law_L_setMask
set_option maxRecDepth 20000 in
theorem ggL_law_X8_setMask : GoodIn wsL_law wsX8_setMask := goodIn_r _ [527, 220, 177, 222, 223, 224, 5, 225, 164, 166, 226, 227, 228, 233, 234, 235, 236, 167, 784, 785, 786, 787, 788, 789, 790, 791, 792, 793, 794, 795, 796, 797, 798, 799, 800, 801, 802] (by decide +kernel) (by decide +kernel)
set_option maxRecDepth 20000 in
theorem gL_law_X8_setMask : GoodIn wsL_law (wsV RL 145 RX8 yX8_setMask wsX8_setMask) := goodIn_app (goodIn_of _ (by decide +kernel)) ggL_law_X8_setMask
set_option maxRecDepth 20000 in
theorem ggL_law_L_setGround : GoodIn wsL_law wsL_setGround := goodIn_ca (goodIn_r _ [530, 248, 531, 532, 533, 2, 534, 26, 262, 263, 264, 265, 266, 777, 778, 779, 780, 781, 782, 783] (by decide +kernel) (by decide +kernel)) (goodIn_sub (fun _ h => List.mem_append_right _ h) (by decide +kernel))
set_option maxRecDepth 20000 in
theorem gL_law_L_setGround : GoodIn wsL_law (va_wsS RL 146 yL_setGround wsL_setGround) := goodIn_app (goodIn_of _ (by decide +kernel)) ggL_law_L_setGround
set_option maxRecDepth 20000 in
theorem ggL_law_X8_setGround : GoodIn wsL_law wsX8_setGround := goodIn_r _ [538, 220, 539, 226, 227, 5, 228, 229, 230, 231, 232, 784, 785, 786, 787, 788, 789, 790, 791, 792, 793, 794, 795, 796, 797, 798, 799, 800, 801, 802] (by decide +kernel) (by decide +kernel)
set_option maxRecDepth 20000 in
theorem gL_law_X8_setGround : GoodIn wsL_law (wsV RL 148 RX8 yX8_setGround wsX8_setGround) := goodIn_app (goodIn_of _ (by decide +kernel)) ggL_law_X8_setGround
set_option maxRecDepth 20000 in
theorem ggL_law_L_value : GoodIn wsL_law wsL_value := goodIn_ca (goodIn_r _ [542, 185, 543, 544, 545, 2, 546, 24, 547, 548, 549, 195, 196, 550, 551, 552, 553, 26, 21, 63, 206, 554, 423, 425, 555, 556, 557, 558, 559, 560, 561, 427, 562, 563, 355, 122, 123, 124, 20, 125, 71, 126, 127, 128, 129, 130, 131, 132, 133, 134, 135, 136, 137, 138, 139, 140, 141, 47, 564, 565, 566, 567, 280, 568, 284, 569, 570, 89, 90, 91, 571, 572, 116, 117, 573, 574, 575, 258, 576, 272, 274, 577, 578, 579, 580, 301, 581, 305, 306, 307, 582, 583, 255, 584, 585, 586, 326, 587, 340, 341, 342, 588, 589, 590, 591, 592, 593, 594, 323, 322, 595, 596, 597, 598, 599, 600, 271, 273, 601, 602, 603, 604, 605, 501, 606, 607, 608, 428, 64, 609, 610, 611, 612, 613, 614, 104, 615, 616, 617, 618, 619, 620, 621, 622, 777, 778, 779, 780, 781, 782, 783, 803, 804, 805, 806, 807, 808, 809, 810, 811, 812, 813, 814, 815, 816, 817, 818, 819, 820, 821, 822, 823, 824, 831, 832, 833, 834, 835, 825, 826, 836, 837, 838, 839, 840, 827, 828, 829, 830, 841, 842] (by decide +kernel) (by decide +kernel)) (goodIn_sub (fun _ h => List.mem_append_left _ (List.mem_append_left _ (List.mem_append_right _ h))) (by decide +kernel))
set_option maxRecDepth 20000 in
theorem gL_law_L_value : GoodIn wsL_law (va_wsS RL 149 yL_value wsL_value) := goodIn_app (goodIn_of _ (by decide +kernel)) ggL_law_L_value
