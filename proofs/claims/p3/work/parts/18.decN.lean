set_option maxRecDepth 20000 in
theorem ggL_law_L_cell : GoodIn wsL_law wsL_cell := goodIn_r _ [10] (by decide +kernel) (by decide +kernel)
set_option maxRecDepth 20000 in
theorem gL_law_L_cell : GoodIn wsL_law (va_wsS RL 40 yL_cell wsL_cell) := goodIn_app (goodIn_r _ [7, 8, 9] (by decide +kernel) (by decide +kernel)) ggL_law_L_cell
set_option maxRecDepth 20000 in
theorem ggL_law_X4_init : GoodIn wsL_law wsX4_init := goodIn_r _ [13, 14, 15, 16, 17, 18, 19, 20, 21, 22, 23, 24, 25, 26, 27, 28, 29, 30, 31, 32, 33, 34, 35, 36, 37, 38, 39, 40, 41, 42, 43, 44, 45, 46, 47, 48, 49, 6, 50, 51, 52, 53, 54, 55, 56, 57, 58, 59, 60, 61, 62, 63, 64, 65, 66, 67, 68, 69, 70, 71, 72, 73, 74, 75, 76, 622, 623, 624, 625, 626, 627, 628, 629, 630, 664, 665, 666, 667, 668, 669, 670, 671, 672, 673, 674, 675, 676, 677, 678, 679, 680, 681, 682, 683, 684, 685, 686, 687, 688, 689, 690, 691] (by decide +kernel) (by decide +kernel)
set_option maxRecDepth 20000 in
theorem gL_law_X4_init : GoodIn wsL_law (wsX4_init) := ggL_law_X4_init
set_option maxRecDepth 20000 in
theorem ggL_law_X5_init : GoodIn wsL_law wsX5_init := goodIn_r _ [79, 80, 15, 16, 17, 81, 82, 83, 84, 85, 86, 87, 88, 89, 90, 91, 92, 6, 93, 94, 95, 96, 97, 98, 99, 100, 101, 631, 632, 633, 634, 635, 636, 637, 638, 639, 640, 641, 642, 643, 644, 645, 646, 647, 648, 649, 650, 651, 652, 653, 654, 655, 656, 657, 658, 659, 660, 661, 662, 663] (by decide +kernel) (by decide +kernel)
set_option maxRecDepth 20000 in
theorem gL_law_X5_init : GoodIn wsL_law (wsX5_init) := ggL_law_X5_init
set_option maxRecDepth 20000 in
theorem ggL_law_L_times : GoodIn wsL_law wsL_times := goodIn_r _ [104, 105, 106, 107, 2, 108, 29, 109, 110, 111, 112, 113, 114, 115, 116, 117, 118, 119, 120, 121, 122, 28, 123, 53, 622, 623, 624, 625, 626, 627, 628, 629, 630, 664, 665, 666, 667, 668, 669, 670, 671, 692, 693, 694, 695, 696, 697] (by decide +kernel) (by decide +kernel)
set_option maxRecDepth 20000 in
theorem gL_law_L_times : GoodIn wsL_law (va_wsS RL 52 yL_times wsL_times) := goodIn_app (goodIn_r _ [102, 103, 9] (by decide +kernel) (by decide +kernel)) ggL_law_L_times
set_option maxRecDepth 20000 in
theorem ggL_law_X5_times : GoodIn wsL_law wsX5_times := goodIn_r _ [127, 101, 128, 81, 129, 130, 131, 132, 5, 133, 100, 134, 135, 136, 137, 138, 631, 632, 633, 634, 635, 636, 637, 638, 639, 640, 641, 642, 643, 644, 645, 646, 647, 648, 649, 650, 651, 652, 653, 654, 655, 656, 657, 658, 659, 660, 661, 662, 663] (by decide +kernel) (by decide +kernel)
set_option maxRecDepth 20000 in
theorem gL_law_X5_times : GoodIn wsL_law (wsV RL 55 RX5 yX5_times wsX5_times) := goodIn_app (goodIn_r _ [124, 125, 126, 5] (by decide +kernel) (by decide +kernel)) ggL_law_X5_times
set_option maxRecDepth 20000 in
theorem ggL_law_X4_row : GoodIn wsL_law wsX4_row := goodIn_r _ [142, 109, 29, 111, 143, 144, 145, 28, 146, 147, 148, 149, 150, 151, 622, 623, 624, 625, 626, 627, 628, 629, 630, 664, 665, 666, 667, 668, 669, 670, 671] (by decide +kernel) (by decide +kernel)
set_option maxRecDepth 20000 in
theorem gL_law_X4_row : GoodIn wsL_law (wsV RL 56 RX4 yX4_row wsX4_row) := goodIn_app (goodIn_r _ [139, 140, 141, 2] (by decide +kernel) (by decide +kernel)) ggL_law_X4_row
set_option maxRecDepth 20000 in
theorem ggL_law_X5_row : GoodIn wsL_law wsX5_row := goodIn_r _ [155, 138, 156, 128, 157, 158, 159, 5, 160, 82, 83, 129, 631, 632, 633, 634, 635, 636, 637, 638, 639, 640, 641, 642, 643, 644, 645, 646, 647, 648, 649, 650, 651, 652, 653, 654, 655, 656, 657, 658, 659, 660, 661, 662, 663] (by decide +kernel) (by decide +kernel)
set_option maxRecDepth 20000 in
theorem gL_law_X5_row : GoodIn wsL_law (wsV RL 60 RX5 yX5_row wsX5_row) := goodIn_app (goodIn_r _ [152, 153, 154, 5] (by decide +kernel) (by decide +kernel)) ggL_law_X5_row
set_option maxRecDepth 20000 in
theorem ggL_law_L_entry : GoodIn wsL_law wsL_entry := goodIn_ca (goodIn_r _ [163, 164, 165, 166, 167, 168, 2, 169, 170, 171, 109, 29, 111, 112, 113, 114, 115, 116, 117, 118, 119, 172, 173, 174, 28, 175, 147, 47, 176, 177, 178, 179, 180, 181, 182, 183, 184, 185, 186, 49, 50, 187, 121, 122, 123, 53, 188, 189, 190, 191, 51, 622, 623, 624, 625, 626, 627, 628, 629, 630, 664, 665, 666, 667, 668, 669, 670, 671, 692, 693, 694, 695, 696, 697] (by decide +kernel) (by decide +kernel)) (goodIn_sub (fun _ h => List.mem_append_right _ h) (by decide +kernel))
set_option maxRecDepth 20000 in
theorem gL_law_L_entry : GoodIn wsL_law (va_wsS RL 61 yL_entry wsL_entry) := goodIn_app (goodIn_r _ [161, 162, 9] (by decide +kernel) (by decide +kernel)) ggL_law_L_entry
set_option maxRecDepth 20000 in
theorem ggL_law_X5_entry : GoodIn wsL_law wsX5_entry := goodIn_r _ [195, 156, 128, 82, 83, 129, 130, 131, 132, 5, 133, 100, 134, 135, 136, 137, 138, 196, 197, 198, 199, 200, 201, 202, 631, 632, 633, 634, 635, 636, 637, 638, 639, 640, 641, 642, 643, 644, 645, 646, 647, 648, 649, 650, 651, 652, 653, 654, 655, 656, 657, 658, 659, 660, 661, 662, 663] (by decide +kernel) (by decide +kernel)
set_option maxRecDepth 20000 in
theorem gL_law_X5_entry : GoodIn wsL_law (wsV RL 63 RX5 yX5_entry wsX5_entry) := goodIn_app (goodIn_r _ [192, 193, 194, 5] (by decide +kernel) (by decide +kernel)) ggL_law_X5_entry
set_option maxRecDepth 20000 in
theorem ggL_law_X4_cube : GoodIn wsL_law wsX4_cube := goodIn_r _ [206, 33, 207, 208, 209, 32, 210, 211, 212, 177, 178, 179, 180, 181, 182, 622, 623, 624, 625, 626, 627, 628, 629, 630, 672, 673, 674, 675, 676, 677, 678] (by decide +kernel) (by decide +kernel)
set_option maxRecDepth 20000 in
theorem gL_law_X4_cube : GoodIn wsL_law (wsV RL 64 RX4 yX4_cube wsX4_cube) := goodIn_app (goodIn_r _ [203, 204, 205, 2] (by decide +kernel) (by decide +kernel)) ggL_law_X4_cube
set_option maxRecDepth 20000 in
theorem ggL_law_X5_cube : GoodIn wsL_law wsX5_cube := goodIn_r _ [216, 138, 217, 84, 631, 632, 633, 634, 635, 636, 637, 638, 639, 640, 641, 642, 643, 644, 645, 646, 647, 648, 649, 650, 651, 652, 653, 654, 655, 656, 657, 658, 659, 660, 661, 662, 663] (by decide +kernel) (by decide +kernel)
set_option maxRecDepth 20000 in
theorem gL_law_X5_cube : GoodIn wsL_law (wsV RL 67 RX5 yX5_cube wsX5_cube) := goodIn_app (goodIn_r _ [213, 214, 215, 5] (by decide +kernel) (by decide +kernel)) ggL_law_X5_cube
set_option maxRecDepth 20000 in
theorem ggL_law_L_lay : GoodIn wsL_law wsL_lay := goodIn_ca (goodIn_r _ [220, 164, 165, 221, 222, 223, 2, 224, 170, 171, 29, 33, 109, 112, 113, 114, 115, 116, 117, 118, 119, 225, 226, 227, 28, 228, 52, 229, 230, 231, 32, 232, 211, 233, 234, 235, 236, 237, 238, 239, 143, 144, 145, 146, 147, 240, 241, 242, 243, 244, 245, 246, 247, 248, 212, 177, 178, 179, 180, 181, 182, 249, 250, 251, 252, 253, 254, 255, 256, 257, 258, 259, 260, 261, 262, 263, 264, 265, 266, 267, 268, 269, 270, 271, 272, 273, 274, 58, 275, 276, 277, 278, 279, 111, 280, 281, 282, 283, 284, 149, 150, 151, 285, 184, 185, 186, 49, 47, 50, 187, 121, 122, 123, 53, 188, 189, 190, 191, 51, 286, 287, 288, 289, 622, 623, 624, 625, 626, 627, 628, 629, 630, 664, 665, 666, 667, 668, 669, 670, 671, 692, 693, 694, 695, 696, 697, 672, 673, 674, 675, 676, 677, 678] (by decide +kernel) (by decide +kernel)) (goodIn_sub (fun _ h => List.mem_append_right _ h) (by decide +kernel))
set_option maxRecDepth 20000 in
theorem gL_law_L_lay : GoodIn wsL_law (va_wsS RL 68 yL_lay wsL_lay) := goodIn_app (goodIn_r _ [218, 219, 9] (by decide +kernel) (by decide +kernel)) ggL_law_L_lay
set_option maxRecDepth 20000 in
theorem ggL_law_X5_lay : GoodIn wsL_law wsX5_lay := goodIn_r _ [293, 100, 217, 128, 156, 294, 85, 130, 131, 132, 5, 133, 134, 135, 136, 137, 138, 295, 296, 297, 298, 299, 300, 301, 302, 303, 304, 305, 306, 307, 308, 84, 309, 310, 311, 312, 313, 314, 315, 157, 158, 159, 160, 82, 83, 129, 631, 632, 633, 634, 635, 636, 637, 638, 639, 640, 641, 642, 643, 644, 645, 646, 647, 648, 649, 650, 651, 652, 653, 654, 655, 656, 657, 658, 659, 660, 661, 662, 663] (by decide +kernel) (by decide +kernel)
set_option maxRecDepth 20000 in
theorem gL_law_X5_lay : GoodIn wsL_law (wsV RL 71 RX5 yX5_lay wsX5_lay) := goodIn_app (goodIn_r _ [290, 291, 292, 5] (by decide +kernel) (by decide +kernel)) ggL_law_X5_lay
set_option maxRecDepth 20000 in
theorem ggL_law_L_take : GoodIn wsL_law wsL_take := goodIn_r _ [318, 319, 320, 321, 2, 322, 109, 29, 323, 18, 111, 324, 325, 326, 327, 328, 117, 118, 119, 329, 330, 331, 28, 332, 333, 147, 51, 334, 335, 336, 337, 53, 338, 339, 340, 341, 50, 54, 342, 343, 344, 345, 346, 347, 348, 349, 350, 351, 352, 52, 622, 623, 624, 625, 626, 627, 628, 629, 630, 664, 665, 666, 667, 668, 669, 670, 671, 692, 693, 694, 695, 696, 697] (by decide +kernel) (by decide +kernel)
set_option maxRecDepth 20000 in
theorem gL_law_L_take : GoodIn wsL_law (va_wsS RL 72 yL_take wsL_take) := goodIn_app (goodIn_r _ [316, 317, 9] (by decide +kernel) (by decide +kernel)) ggL_law_L_take
set_option maxRecDepth 20000 in
theorem ggL_law_X5_take : GoodIn wsL_law wsX5_take := goodIn_r _ [356, 86, 128, 129, 357, 358, 359, 5, 360, 156, 134, 135, 136, 137, 138, 361, 362, 363, 364, 89, 92, 98, 365, 366, 367, 368, 100, 99, 83, 196, 197, 198, 199, 82, 369, 370, 371, 372, 373, 374, 375, 376, 101, 377, 378, 379, 380, 81, 631, 632, 633, 634, 635, 636, 637, 638, 639, 640, 641, 642, 643, 644, 645, 646, 647, 648, 649, 650, 651, 652, 653, 654, 655, 656, 657, 658, 659, 660, 661, 662, 663] (by decide +kernel) (by decide +kernel)
set_option maxRecDepth 20000 in
theorem gL_law_X5_take : GoodIn wsL_law (wsV RL 75 RX5 yX5_take wsX5_take) := goodIn_app (goodIn_r _ [353, 354, 355, 5] (by decide +kernel) (by decide +kernel)) ggL_law_X5_take
set_option maxRecDepth 20000 in
theorem ggL_law_X4_untake : GoodIn wsL_law wsX4_untake := goodIn_r _ [384, 109, 18, 323, 385, 111, 622, 623, 624, 625, 626, 627, 628, 629, 630] (by decide +kernel) (by decide +kernel)
set_option maxRecDepth 20000 in
theorem gL_law_X4_untake : GoodIn wsL_law (wsV RL 76 RX4 yX4_untake wsX4_untake) := goodIn_app (goodIn_r _ [381, 382, 383, 2] (by decide +kernel) (by decide +kernel)) ggL_law_X4_untake
set_option maxRecDepth 20000 in
theorem ggL_law_X5_untake : GoodIn wsL_law wsX5_untake := goodIn_r _ [389, 138, 128, 129, 86, 631, 632, 633, 634, 635, 636, 637, 638, 639, 640, 641, 642, 643, 644, 645, 646, 647, 648, 649, 650, 651, 652, 653, 654, 655, 656, 657, 658, 659, 660, 661, 662, 663] (by decide +kernel) (by decide +kernel)
set_option maxRecDepth 20000 in
theorem gL_law_X5_untake : GoodIn wsL_law (wsV RL 79 RX5 yX5_untake wsX5_untake) := goodIn_app (goodIn_r _ [386, 387, 388, 5] (by decide +kernel) (by decide +kernel)) ggL_law_X5_untake
set_option maxRecDepth 20000 in
theorem ggL_law_L_open : GoodIn wsL_law wsL_open := goodIn_r _ [392, 393, 394, 395, 2, 396, 29, 323, 397, 112, 113, 114, 115, 116, 117, 118, 119, 329, 330, 331, 28, 332, 333, 147, 51, 334, 335, 336, 337, 53, 338, 339, 340, 341, 50, 54, 342, 343, 344, 345, 346, 347, 348, 349, 350, 351, 352, 52, 398, 622, 623, 624, 625, 626, 627, 628, 629, 630, 664, 665, 666, 667, 668, 669, 670, 671, 692, 693, 694, 695, 696, 697] (by decide +kernel) (by decide +kernel)
set_option maxRecDepth 20000 in
theorem gL_law_L_open : GoodIn wsL_law (va_wsS RL 80 yL_open wsL_open) := goodIn_app (goodIn_r _ [390, 391, 9] (by decide +kernel) (by decide +kernel)) ggL_law_L_open
set_option maxRecDepth 20000 in
theorem ggL_law_X5_open : GoodIn wsL_law wsX5_open := goodIn_r _ [402, 156, 130, 131, 132, 5, 133, 100, 134, 135, 136, 137, 138, 361, 362, 363, 364, 89, 92, 98, 128, 86, 365, 366, 367, 368, 99, 83, 196, 197, 198, 199, 82, 369, 370, 371, 372, 373, 374, 375, 376, 101, 377, 378, 379, 380, 81, 631, 632, 633, 634, 635, 636, 637, 638, 639, 640, 641, 642, 643, 644, 645, 646, 647, 648, 649, 650, 651, 652, 653, 654, 655, 656, 657, 658, 659, 660, 661, 662, 663] (by decide +kernel) (by decide +kernel)
set_option maxRecDepth 20000 in
theorem gL_law_X5_open : GoodIn wsL_law (wsV RL 82 RX5 yX5_open wsX5_open) := goodIn_app (goodIn_r _ [399, 400, 401, 5] (by decide +kernel) (by decide +kernel)) ggL_law_X5_open
set_option maxRecDepth 20000 in
theorem ggL_law_X4_ways : GoodIn wsL_law wsX4_ways := goodIn_r _ [406, 407, 111, 41, 323, 408, 409, 410, 40, 411, 412, 413, 71, 72, 76, 74, 414, 415, 73, 416, 330, 331, 28, 332, 333, 147, 51, 334, 335, 336, 337, 53, 338, 339, 340, 341, 50, 54, 342, 343, 344, 345, 346, 347, 348, 349, 350, 351, 352, 52, 417, 418, 419, 420, 421, 422, 423, 424, 425, 426, 427, 428, 429, 430, 431, 75, 432, 433, 434, 435, 436, 437, 438, 439, 178, 440, 441, 442, 443, 444, 445, 446, 447, 448, 449, 622, 623, 624, 625, 626, 627, 628, 629, 630, 684, 685, 686, 687, 688, 689, 690, 691, 664, 665, 666, 667, 668, 669, 670, 671] (by decide +kernel) (by decide +kernel)
set_option maxRecDepth 20000 in
theorem gL_law_X4_ways : GoodIn wsL_law (wsV RL 83 RX4 yX4_ways wsX4_ways) := goodIn_app (goodIn_r _ [403, 404, 405, 2] (by decide +kernel) (by decide +kernel)) ggL_law_X4_ways
set_option maxRecDepth 20000 in
theorem ggL_law_X5_ways : GoodIn wsL_law wsX5_ways := goodIn_r _ [453, 138, 454, 93, 455, 456, 457, 129, 458, 459, 460, 461, 5, 462, 463, 90, 91, 156, 92, 87, 361, 362, 363, 364, 89, 98, 128, 86, 365, 366, 367, 368, 100, 99, 83, 196, 197, 198, 199, 82, 464, 465, 466, 467, 468, 469, 470, 471, 472, 101, 81, 473, 474, 475, 476, 477, 478, 479, 480, 377, 378, 379, 380, 481, 482, 483, 484, 631, 632, 633, 634, 635, 636, 637, 638, 639, 640, 641, 642, 643, 644, 645, 646, 647, 648, 649, 650, 651, 652, 653, 654, 655, 656, 657, 658, 659, 660, 661, 662, 663] (by decide +kernel) (by decide +kernel)
set_option maxRecDepth 20000 in
theorem gL_law_X5_ways : GoodIn wsL_law (wsV RL 86 RX5 yX5_ways wsX5_ways) := goodIn_app (goodIn_r _ [450, 451, 452, 5] (by decide +kernel) (by decide +kernel)) ggL_law_X5_ways
set_option maxRecDepth 20000 in
theorem ggL_law_X4_nodes : GoodIn wsL_law wsX4_nodes := goodIn_r _ [488, 41, 489, 622, 623, 624, 625, 626, 627, 628, 629, 630, 684, 685, 686, 687, 688, 689, 690, 691] (by decide +kernel) (by decide +kernel)
set_option maxRecDepth 20000 in
theorem gL_law_X4_nodes : GoodIn wsL_law (wsV RL 87 RX4 yX4_nodes wsX4_nodes) := goodIn_app (goodIn_r _ [485, 486, 487, 2] (by decide +kernel) (by decide +kernel)) ggL_law_X4_nodes
set_option maxRecDepth 20000 in
theorem ggL_law_X5_nodes : GoodIn wsL_law wsX5_nodes := goodIn_r _ [493, 138, 456, 631, 632, 633, 634, 635, 636, 637, 638, 639, 640, 641, 642, 643, 644, 645, 646, 647, 648, 649, 650, 651, 652, 653, 654, 655, 656, 657, 658, 659, 660, 661, 662, 663] (by decide +kernel) (by decide +kernel)
set_option maxRecDepth 20000 in
theorem gL_law_X5_nodes : GoodIn wsL_law (wsV RL 90 RX5 yX5_nodes wsX5_nodes) := goodIn_app (goodIn_r _ [490, 491, 492, 5] (by decide +kernel) (by decide +kernel)) ggL_law_X5_nodes
set_option maxRecDepth 20000 in
theorem ggL_law_X4_way : GoodIn wsL_law wsX4_way := goodIn_r _ [497, 111, 41, 498, 499, 500, 501, 40, 502, 413, 503, 20, 21, 22, 504, 505, 2, 506, 622, 623, 624, 625, 626, 627, 628, 629, 630, 684, 685, 686, 687, 688, 689, 690, 691] (by decide +kernel) (by decide +kernel)
set_option maxRecDepth 20000 in
theorem gL_law_X4_way : GoodIn wsL_law (wsV RL 91 RX4 yX4_way wsX4_way) := goodIn_app (goodIn_r _ [494, 495, 496, 2] (by decide +kernel) (by decide +kernel)) ggL_law_X4_way
set_option maxRecDepth 20000 in
theorem ggL_law_X5_way : GoodIn wsL_law wsX5_way := goodIn_r _ [510, 138, 129, 156, 93, 631, 632, 633, 634, 635, 636, 637, 638, 639, 640, 641, 642, 643, 644, 645, 646, 647, 648, 649, 650, 651, 652, 653, 654, 655, 656, 657, 658, 659, 660, 661, 662, 663] (by decide +kernel) (by decide +kernel)
set_option maxRecDepth 20000 in
theorem gL_law_X5_way : GoodIn wsL_law (wsV RL 94 RX5 yX5_way wsX5_way) := goodIn_app (goodIn_r _ [507, 508, 509, 5] (by decide +kernel) (by decide +kernel)) ggL_law_X5_way
set_option maxRecDepth 20000 in
theorem ggL_law_X4_turn : GoodIn wsL_law wsX4_turn := goodIn_r _ [514, 37, 515, 516, 517, 36, 518, 519, 63, 622, 623, 624, 625, 626, 627, 628, 629, 630, 679, 680, 681, 682, 683] (by decide +kernel) (by decide +kernel)
set_option maxRecDepth 20000 in
theorem gL_law_X4_turn : GoodIn wsL_law (wsV RL 95 RX4 yX4_turn wsX4_turn) := goodIn_app (goodIn_r _ [511, 512, 513, 2] (by decide +kernel) (by decide +kernel)) ggL_law_X4_turn
set_option maxRecDepth 20000 in
theorem ggL_law_X5_turn : GoodIn wsL_law wsX5_turn := goodIn_r _ [523, 138, 524, 95, 631, 632, 633, 634, 635, 636, 637, 638, 639, 640, 641, 642, 643, 644, 645, 646, 647, 648, 649, 650, 651, 652, 653, 654, 655, 656, 657, 658, 659, 660, 661, 662, 663] (by decide +kernel) (by decide +kernel)
set_option maxRecDepth 20000 in
theorem gL_law_X5_turn : GoodIn wsL_law (wsV RL 98 RX5 yX5_turn wsX5_turn) := goodIn_app (goodIn_r _ [520, 521, 522, 5] (by decide +kernel) (by decide +kernel)) ggL_law_X5_turn
set_option maxRecDepth 20000 in
theorem ggL_law_L_exchange : GoodIn wsL_law wsL_exchange := goodIn_r _ [527, 528, 529, 530, 2, 531, 37, 532, 117, 118, 119, 112, 113, 114, 115, 29, 116, 533, 534, 535, 36, 536, 63, 622, 623, 624, 625, 626, 627, 628, 629, 630, 679, 680, 681, 682, 683, 692, 693, 694, 695, 696, 697, 664, 665, 666, 667, 668, 669, 670, 671] (by decide +kernel) (by decide +kernel)
set_option maxRecDepth 20000 in
theorem gL_law_L_exchange : GoodIn wsL_law (va_wsS RL 99 yL_exchange wsL_exchange) := goodIn_app (goodIn_r _ [525, 526, 9] (by decide +kernel) (by decide +kernel)) ggL_law_L_exchange
set_option maxRecDepth 20000 in
theorem ggL_law_X5_exchange : GoodIn wsL_law wsX5_exchange := goodIn_r _ [540, 524, 95, 130, 131, 132, 5, 133, 100, 134, 135, 136, 137, 138, 631, 632, 633, 634, 635, 636, 637, 638, 639, 640, 641, 642, 643, 644, 645, 646, 647, 648, 649, 650, 651, 652, 653, 654, 655, 656, 657, 658, 659, 660, 661, 662, 663] (by decide +kernel) (by decide +kernel)
set_option maxRecDepth 20000 in
theorem gL_law_X5_exchange : GoodIn wsL_law (wsV RL 102 RX5 yX5_exchange wsX5_exchange) := goodIn_app (goodIn_r _ [537, 538, 539, 5] (by decide +kernel) (by decide +kernel)) ggL_law_X5_exchange
set_option maxRecDepth 20000 in
theorem ggL_law_X4_classes : GoodIn wsL_law wsX4_classes := goodIn_r _ [544, 29, 37, 42, 498, 545, 546, 547, 28, 548, 147, 47, 549, 550, 551, 552, 52, 49, 553, 554, 555, 36, 556, 519, 557, 558, 559, 560, 66, 561, 562, 63, 563, 564, 565, 566, 567, 64, 568, 569, 570, 571, 572, 573, 574, 575, 576, 577, 408, 409, 410, 40, 411, 412, 413, 71, 72, 76, 74, 414, 415, 73, 416, 330, 331, 332, 333, 51, 334, 335, 336, 337, 53, 338, 339, 340, 341, 50, 54, 342, 343, 344, 345, 346, 347, 348, 349, 350, 351, 352, 417, 418, 419, 420, 421, 422, 423, 424, 425, 426, 427, 428, 429, 430, 431, 75, 432, 433, 434, 435, 436, 437, 438, 439, 178, 440, 441, 442, 443, 444, 445, 446, 447, 448, 449, 578, 579, 580, 581, 65, 582, 583, 584, 585, 586, 587, 588, 589, 590, 591, 592, 622, 623, 624, 625, 626, 627, 628, 629, 630, 684, 685, 686, 687, 688, 689, 690, 691, 664, 665, 666, 667, 668, 669, 670, 671, 679, 680, 681, 682, 683] (by decide +kernel) (by decide +kernel)
set_option maxRecDepth 20000 in
theorem gL_law_X4_classes : GoodIn wsL_law (wsV RL 103 RX4 yX4_classes wsX4_classes) := goodIn_app (goodIn_r _ [541, 542, 543, 2] (by decide +kernel) (by decide +kernel)) ggL_law_X4_classes
set_option maxRecDepth 20000 in
theorem ggL_law_X5_classes : GoodIn wsL_law wsX5_classes := goodIn_r _ [596, 138, 128, 94, 458, 457, 97, 524, 156, 96, 597, 598, 599, 5, 600, 100, 95, 101, 81, 601, 602, 603, 604, 82, 83, 200, 201, 202, 196, 197, 198, 199, 459, 460, 461, 462, 455, 463, 90, 91, 92, 87, 361, 362, 363, 364, 89, 98, 86, 365, 366, 367, 368, 99, 464, 465, 466, 467, 468, 469, 470, 471, 472, 473, 474, 475, 476, 477, 478, 479, 480, 377, 378, 379, 380, 481, 482, 483, 484, 605, 606, 607, 608, 631, 632, 633, 634, 635, 636, 637, 638, 639, 640, 641, 642, 643, 644, 645, 646, 647, 648, 649, 650, 651, 652, 653, 654, 655, 656, 657, 658, 659, 660, 661, 662, 663] (by decide +kernel) (by decide +kernel)
set_option maxRecDepth 20000 in
theorem gL_law_X5_classes : GoodIn wsL_law (wsV RL 106 RX5 yX5_classes wsX5_classes) := goodIn_app (goodIn_r _ [593, 594, 595, 5] (by decide +kernel) (by decide +kernel)) ggL_law_X5_classes
set_option maxRecDepth 20000 in
theorem ggL_law_L_tell : GoodIn wsL_law wsL_tell := goodIn_r _ [611, 612, 613, 614, 2, 615, 29, 616, 324, 325, 326, 327, 328, 117, 118, 119, 617, 177, 178, 179, 180, 181, 182, 504, 505, 506, 622, 623, 624, 625, 626, 627, 628, 629, 630, 664, 665, 666, 667, 668, 669, 670, 671, 692, 693, 694, 695, 696, 697] (by decide +kernel) (by decide +kernel)
set_option maxRecDepth 20000 in
theorem gL_law_L_tell : GoodIn wsL_law (va_wsS RL 107 yL_tell wsL_tell) := goodIn_app (goodIn_r _ [609, 610, 9] (by decide +kernel) (by decide +kernel)) ggL_law_L_tell
set_option maxRecDepth 20000 in
theorem ggL_law_X5_tell : GoodIn wsL_law wsX5_tell := goodIn_r _ [621, 82, 100, 357, 358, 359, 5, 360, 156, 134, 135, 136, 137, 138, 200, 201, 202, 196, 197, 198, 199, 631, 632, 633, 634, 635, 636, 637, 638, 639, 640, 641, 642, 643, 644, 645, 646, 647, 648, 649, 650, 651, 652, 653, 654, 655, 656, 657, 658, 659, 660, 661, 662, 663] (by decide +kernel) (by decide +kernel)
set_option maxRecDepth 20000 in
theorem gL_law_X5_tell : GoodIn wsL_law (wsV RL 109 RX5 yX5_tell wsX5_tell) := goodIn_app (goodIn_r _ [618, 619, 620, 5] (by decide +kernel) (by decide +kernel)) ggL_law_X5_tell
