set_option maxRecDepth 20000 in
theorem in_wsL_law0_r14 : ∀ w ∈ wsL_law0_r14, w ∈ lw_tbl := fun w h => (goodIn_r wsL_law0_r14 [796, 798, 25, 799, 593, 594, 595, 596, 597, 598, 599, 210, 600, 602, 18, 603, 97, 605, 272, 273, 274, 293, 275, 276] (by decide +kernel) (by decide +kernel) w h).1
set_option maxRecDepth 20000 in
theorem in_wsL_law0_r15 : ∀ w ∈ wsL_law0_r15, w ∈ lw_tbl := fun w h => (goodIn_r wsL_law0_r15 [277, 278, 279, 280, 281, 282, 283, 284, 56, 285, 286, 287, 288, 289, 290, 291, 292, 800, 801, 802, 803, 804, 806, 26] (by decide +kernel) (by decide +kernel) w h).1
set_option maxRecDepth 20000 in
theorem in_wsL_law0_r16 : ∀ w ∈ wsL_law0_r16, w ∈ lw_tbl := fun w h => (goodIn_r wsL_law0_r16 [807, 808, 810, 27, 811, 812, 814, 28, 815, 816, 818, 29, 819, 820, 822, 30, 823, 824, 826, 31, 827, 257, 258, 259] (by decide +kernel) (by decide +kernel) w h).1
set_option maxRecDepth 20000 in
theorem in_wsL_law0_r17 : ∀ w ∈ wsL_law0_r17, w ∈ lw_tbl := fun w h => (goodIn_r wsL_law0_r17 [260, 261, 828, 829, 830, 831, 606, 607, 608, 609, 610, 611, 612, 92, 613, 832, 833, 834, 835, 262, 263, 264, 265, 266] (by decide +kernel) (by decide +kernel) w h).1
set_option maxRecDepth 20000 in
theorem in_wsL_law0_r18 : ∀ w ∈ wsL_law0_r18, w ∈ lw_tbl := fun w h => (goodIn_r wsL_law0_r18 [267, 268, 269, 270, 183, 185, 309, 300, 271, 294, 295, 296, 298, 0, 299, 91, 301, 302, 303, 304, 305, 307, 1, 308] (by decide +kernel) (by decide +kernel) w h).1
set_option maxRecDepth 20000 in
theorem in_wsL_law0_r19 : ∀ w ∈ wsL_law0_r19, w ∈ lw_tbl := fun w h => (goodIn_r wsL_law0_r19 [310, 311, 312, 313, 314, 315, 316, 317, 318, 319, 320, 322, 2, 323, 324, 85, 94, 325, 836, 837, 838, 839, 840, 659] (by decide +kernel) (by decide +kernel) w h).1
set_option maxRecDepth 20000 in
theorem in_wsL_law0_r20 : ∀ w ∈ wsL_law0_r20, w ∈ lw_tbl := fun w h => (goodIn_r wsL_law0_r20 [671, 660, 661, 841, 843, 32, 844, 653, 845, 847, 33, 848, 849, 850, 852, 34, 853, 854, 856, 35, 857, 858, 860, 36] (by decide +kernel) (by decide +kernel) w h).1
set_option maxRecDepth 20000 in
theorem in_wsL_law0_r21 : ∀ w ∈ wsL_law0_r21, w ∈ lw_tbl := fun w h => (goodIn_r wsL_law0_r21 [861, 862, 864, 37, 865, 326, 327, 328, 329, 184, 866, 867, 868, 869, 330, 331, 332, 333, 182, 334, 335, 336, 337, 338] (by decide +kernel) (by decide +kernel) w h).1
set_option maxRecDepth 20000 in
theorem in_wsL_law0_r22 : ∀ w ∈ wsL_law0_r22, w ∈ lw_tbl := fun w h => (goodIn_r wsL_law0_r22 [339, 340, 341, 870, 871, 872, 873, 342, 343, 344, 345, 346, 347, 348, 349, 157, 874, 875, 876, 877, 665, 614, 615, 616] (by decide +kernel) (by decide +kernel) w h).1
set_option maxRecDepth 20000 in
theorem in_wsL_law0_r23 : ∀ w ∈ wsL_law0_r23, w ∈ lw_tbl := fun w h => (goodIn_r wsL_law0_r23 [617, 618, 619, 620, 158, 622, 623, 624, 625, 878, 879, 880, 881, 350, 351, 352, 353, 354, 355, 356, 357, 358, 360, 3] (by decide +kernel) (by decide +kernel) w h).1
set_option maxRecDepth 20000 in
theorem in_wsL_law0_r24 : ∀ w ∈ wsL_law0_r24, w ∈ lw_tbl := fun w h => (goodIn_r wsL_law0_r24 [361, 362, 363, 364, 365, 366, 368, 4, 369, 78, 83, 370, 372, 5, 373, 96, 374, 376, 6, 377, 378, 380, 7, 381] (by decide +kernel) (by decide +kernel) w h).1
set_option maxRecDepth 20000 in
theorem in_wsL_law0_r25 : ∀ w ∈ wsL_law0_r25, w ∈ lw_tbl := fun w h => (goodIn_r wsL_law0_r25 [86, 89, 382, 383, 384, 385, 386, 388, 8, 389, 390, 391, 392, 393, 395, 9, 396, 882, 883, 884, 885, 886, 888, 38] (by decide +kernel) (by decide +kernel) w h).1
set_option maxRecDepth 20000 in
theorem in_wsL_law0_r26 : ∀ w ∈ wsL_law0_r26, w ∈ lw_tbl := fun w h => (goodIn_r wsL_law0_r26 [889, 890, 892, 39, 893, 894, 896, 40, 897, 626, 627, 628, 629, 630, 631, 632, 87, 633, 898, 899, 900, 901] (by decide +kernel) (by decide +kernel) w h).1
set_option maxRecDepth 20000 in
theorem inb_wsX40 : ∀ w ∈ wsX40, w ∈ lw_tbl := fun w h => (goodIn_p wsX40 [] (by decide +kernel) (by decide +kernel) w h).1
set_option maxRecDepth 20000 in
theorem inb_wsX50 : ∀ w ∈ wsX50, w ∈ lw_tbl := fun w h => (goodIn_p wsX50 [] (by decide +kernel) (by decide +kernel) w h).1
set_option maxRecDepth 20000 in
theorem inb_wsX20 : ∀ w ∈ wsX20, w ∈ lw_tbl := fun w h => (goodIn_p wsX20 [] (by decide +kernel) (by decide +kernel) w h).1
set_option maxRecDepth 20000 in
theorem inb_wsX00 : ∀ w ∈ wsX00, w ∈ lw_tbl := fun w h => (goodIn_p wsX00 [] (by decide +kernel) (by decide +kernel) w h).1
set_option maxRecDepth 20000 in
theorem inb_wsX30 : ∀ w ∈ wsX30, w ∈ lw_tbl := fun w h => (goodIn_p wsX30 [] (by decide +kernel) (by decide +kernel) w h).1
set_option maxRecDepth 20000 in
theorem inb_wsX10 : ∀ w ∈ wsX10, w ∈ lw_tbl := fun w h => (goodIn_p wsX10 [] (by decide +kernel) (by decide +kernel) w h).1
set_option maxRecDepth 20000 in
theorem inb_wsJx000600 : ∀ w ∈ wsJx000600, w ∈ lw_tbl := fun w h => (goodIn_p wsJx000600 [] (by decide +kernel) (by decide +kernel) w h).1
