set_option maxRecDepth 20000 in
theorem wsL_law_c11 : ∀ w ∈ wsL_law0_r11, w ∈ lw_tbl := lw_mem _ [584, 585, 586, 373, 374, 375, 376, 33, 591, 592, 593, 594, 595, 597, 598, 600, 610, 611, 612, 613, 614, 34, 615, 616] (by decide +kernel)
set_option maxRecDepth 20000 in
theorem wsL_law_c12 : ∀ w ∈ wsL_law0_r12, w ∈ lw_tbl := lw_mem _ [617, 619, 625, 626, 627, 628, 629, 630, 37, 631, 632, 633, 638, 639, 640, 635, 636, 637, 650, 651, 652, 653, 440, 439] (by decide +kernel)
set_option maxRecDepth 20000 in
theorem wsL_law_c13 : ∀ w ∈ wsL_law0_r13, w ∈ lw_tbl := lw_mem _ [655, 656, 38, 657, 658, 39, 654, 659, 660, 661, 662, 663, 665, 672, 673, 674, 676, 677, 678, 675, 688, 689, 690, 691] (by decide +kernel)
set_option maxRecDepth 20000 in
theorem wsL_law_c14 : ∀ w ∈ wsL_law0_r14, w ∈ lw_tbl := lw_mem _ [692, 693, 694, 695, 696, 697, 698, 699, 89, 701, 702, 703, 704, 705, 706, 362, 363, 364, 707, 708, 709, 710, 711, 713] (by decide +kernel)
set_option maxRecDepth 20000 in
theorem wsL_law_c15 : ∀ w ∈ wsL_law0_r15, w ∈ lw_tbl := lw_mem _ [14, 714, 715, 716, 717, 718, 719, 720, 721, 722, 723, 724, 725, 726, 727, 728, 729, 730, 733, 734, 735, 736, 91, 93] (by decide +kernel)
set_option maxRecDepth 20000 in
theorem wsL_law_c16 : ∀ w ∈ wsL_law0_r16, w ∈ lw_tbl := lw_mem _ [737, 738, 739, 740, 95, 369, 370, 371, 372, 97, 99, 741, 742, 743, 744, 103, 745, 746, 747, 748, 101, 750, 751, 752] (by decide +kernel)
set_option maxRecDepth 20000 in
theorem wsL_law_c17 : ∀ w ∈ wsL_law0_r17, w ∈ lw_tbl := lw_mem _ [753, 469, 470, 471, 472, 111, 116, 396, 397, 398, 404, 406, 8, 407, 105, 107, 114, 441, 115, 408, 410, 411, 409, 414] (by decide +kernel)
set_option maxRecDepth 20000 in
theorem wsL_law_c18 : ∀ w ∈ wsL_law0_r18, w ∈ lw_tbl := lw_mem _ [596, 419, 599, 420, 415, 416, 417, 418, 421, 423, 424, 425, 426, 427, 428, 429, 430, 431, 432, 433, 434, 435, 664, 666] (by decide +kernel)
set_option maxRecDepth 20000 in
theorem wsL_law_c19 : ∀ w ∈ wsL_law0_r19, w ∈ lw_tbl := lw_mem _ [437, 438, 412, 413, 442, 443, 444, 445, 446, 448, 450, 9, 451, 452, 453, 454, 455, 456, 457, 458, 466, 467, 468, 473] (by decide +kernel)
set_option maxRecDepth 20000 in
theorem wsL_law_c20 : ∀ w ∈ wsL_law0_r20, w ∈ lw_tbl := lw_mem _ [474, 475, 476, 279, 280, 281, 282, 359, 360, 361, 618, 109, 113, 392, 393, 394, 395, 400, 402, 7, 403, 459, 460, 461] (by decide +kernel)
set_option maxRecDepth 20000 in
theorem wsL_law_c21 : ∀ w ∈ wsL_law0_r21, w ∈ lw_tbl := lw_mem _ [462, 464, 10, 465, 477, 478, 479, 480, 481, 482, 483, 484, 485, 487, 11, 488, 489, 490, 40, 491, 492, 493, 494, 365] (by decide +kernel)
set_option maxRecDepth 20000 in
theorem wsL_law_c22 : ∀ w ∈ wsL_law0_r22, w ∈ lw_tbl := lw_mem _ [366, 367, 368] (by decide +kernel)
set_option maxRecDepth 20000 in
theorem wsL_law_dX7 : ∀ w ∈ wsX70, w ∈ lw_tbl := by decide +kernel
set_option maxRecDepth 20000 in
theorem wsL_law_dX8 : ∀ w ∈ wsX80, w ∈ lw_tbl := by decide +kernel
set_option maxRecDepth 20000 in
theorem wsL_law_dX3 : ∀ w ∈ wsX30, w ∈ lw_tbl := by decide +kernel
set_option maxRecDepth 20000 in
theorem wsL_law_dJx4a65c : ∀ w ∈ wsJx4a65c0, w ∈ lw_tbl := by decide +kernel
set_option maxRecDepth 20000 in
theorem wsL_law_dX4 : ∀ w ∈ wsX40, w ∈ lw_tbl := by decide +kernel
set_option maxRecDepth 20000 in
theorem wsL_law_dX0 : ∀ w ∈ wsX00, w ∈ lw_tbl := by decide +kernel
set_option maxRecDepth 20000 in
theorem wsL_law_dX2 : ∀ w ∈ wsX20, w ∈ lw_tbl := by decide +kernel
set_option maxRecDepth 20000 in
theorem wsL_law_dX6 : ∀ w ∈ wsX60, w ∈ lw_tbl := by decide +kernel
set_option maxRecDepth 20000 in
theorem wsL_law_dX1 : ∀ w ∈ wsX10, w ∈ lw_tbl := by decide +kernel
