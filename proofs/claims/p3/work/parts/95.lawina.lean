set_option maxRecDepth 20000 in
theorem in_wsL_law0_r1 : ∀ w ∈ wsL_law0_r1, w ∈ lw_tbl := fun w h => (goodIn_r wsL_law0_r1 [57, 58, 42, 634, 635, 48, 117, 397, 398, 41, 399, 59, 60, 61, 62, 63, 64, 115, 208, 65, 66, 43, 67, 68] (by decide +kernel) (by decide +kernel) w h).1
set_option maxRecDepth 20000 in
theorem in_wsL_law0_r2 : ∀ w ∈ wsL_law0_r2, w ∈ lw_tbl := fun w h => (goodIn_r wsL_law0_r2 [69, 70, 71, 72, 44, 203, 118, 119, 45, 204, 147, 148, 46, 205, 170, 171, 47, 206, 207, 73, 74, 75, 76, 84] (by decide +kernel) (by decide +kernel) w h).1
set_option maxRecDepth 20000 in
theorem in_wsL_law0_r3 : ∀ w ∈ wsL_law0_r3, w ∈ lw_tbl := fun w h => (goodIn_r wsL_law0_r3 [116, 88, 90, 93, 77, 80, 81, 121, 122, 123, 124, 149, 150, 151, 152, 154, 155, 156, 153, 172, 173, 174, 175, 177] (by decide +kernel) (by decide +kernel) w h).1
set_option maxRecDepth 20000 in
theorem in_wsL_law0_r4 : ∀ w ∈ wsL_law0_r4, w ∈ lw_tbl := fun w h => (goodIn_r wsL_law0_r4 [178, 179, 180, 181, 176, 636, 637, 638, 639, 643, 645, 646, 648, 649, 652, 654, 739, 655, 656, 657, 658, 663, 664, 666] (by decide +kernel) (by decide +kernel) w h).1
set_option maxRecDepth 20000 in
theorem in_wsL_law0_r5 : ∀ w ∈ wsL_law0_r5, w ∈ lw_tbl := fun w h => (goodIn_r wsL_law0_r5 [667, 668, 669, 670, 641, 642, 400, 401, 402, 404, 405, 406, 407, 209, 82, 211, 408, 410, 10, 411, 79, 412, 413, 53] (by decide +kernel) (by decide +kernel) w h).1
set_option maxRecDepth 20000 in
theorem in_wsL_law0_r6 : ∀ w ∈ wsL_law0_r6, w ∈ lw_tbl := fun w h => (goodIn_r wsL_law0_r6 [483, 484, 485, 486, 740, 741, 742, 743, 651, 662, 744, 746, 19, 747, 748, 750, 20, 751, 640, 231, 232, 233, 234, 235] (by decide +kernel) (by decide +kernel) w h).1
set_option maxRecDepth 20000 in
theorem in_wsL_law0_r7 : ∀ w ∈ wsL_law0_r7, w ∈ lw_tbl := fun w h => (goodIn_r wsL_law0_r7 [236, 237, 238, 95, 239, 240, 241, 242, 752, 753, 754, 755, 644, 756, 758, 21, 759, 487, 488, 489, 403, 490, 491, 492] (by decide +kernel) (by decide +kernel) w h).1
set_option maxRecDepth 20000 in
theorem in_wsL_law0_r8 : ∀ w ∈ wsL_law0_r8, w ∈ lw_tbl := fun w h => (goodIn_r wsL_law0_r8 [493, 494, 495, 54, 511, 512, 513, 514, 515, 252, 55, 253, 254, 255, 256, 516, 517, 518, 519, 520, 521, 523, 12, 524] (by decide +kernel) (by decide +kernel) w h).1
set_option maxRecDepth 20000 in
theorem in_wsL_law0_r9 : ∀ w ∈ wsL_law0_r9, w ∈ lw_tbl := fun w h => (goodIn_r wsL_law0_r9 [760, 761, 762, 763, 764, 766, 22, 767, 768, 769, 770, 243, 244, 245, 246, 247, 248, 249, 250, 126, 251, 771, 772, 773] (by decide +kernel) (by decide +kernel) w h).1
set_option maxRecDepth 20000 in
theorem in_wsL_law0_r10 : ∀ w ∈ wsL_law0_r10, w ∈ lw_tbl := fun w h => (goodIn_r wsL_law0_r10 [774, 647, 525, 526, 527, 528, 529, 530, 531, 532, 533, 534, 535, 536, 537, 538, 539, 541, 542, 543, 544, 127, 128, 129] (by decide +kernel) (by decide +kernel) w h).1
set_option maxRecDepth 20000 in
theorem in_wsL_law0_r11 : ∀ w ∈ wsL_law0_r11, w ∈ lw_tbl := fun w h => (goodIn_r wsL_law0_r11 [545, 546, 547, 548, 130, 131, 549, 550, 551, 552, 553, 554, 555, 557, 559, 13, 560, 561, 562, 563, 564, 565, 566, 567] (by decide +kernel) (by decide +kernel) w h).1
set_option maxRecDepth 20000 in
theorem in_wsL_law0_r12 : ∀ w ∈ wsL_law0_r12, w ∈ lw_tbl := fun w h => (goodIn_r wsL_law0_r12 [569, 14, 570, 571, 573, 15, 574, 575, 577, 16, 578, 579, 581, 17, 582, 125, 583, 584, 585, 586, 587, 588, 589, 590] (by decide +kernel) (by decide +kernel) w h).1
set_option maxRecDepth 20000 in
theorem in_wsL_law0_r13 : ∀ w ∈ wsL_law0_r13, w ∈ lw_tbl := fun w h => (goodIn_r wsL_law0_r13 [591, 592, 775, 776, 777, 778, 650, 779, 781, 23, 782, 783, 784, 785, 786, 787, 788, 789, 791, 24, 792, 793, 794, 795] (by decide +kernel) (by decide +kernel) w h).1
