set_option maxRecDepth 20000 in
theorem ggL_law_L_cell : GoodIn wsL_law wsL_cell := goodIn_r _ [10] (by decide +kernel) (by decide +kernel)
set_option maxRecDepth 20000 in
theorem gL_law_L_cell : GoodIn wsL_law (va_wsS RL 40 yL_cell wsL_cell) := goodIn_app (goodIn_of _ (by decide +kernel)) ggL_law_L_cell
set_option maxRecDepth 20000 in
theorem ggL_law_X4_init : GoodIn wsL_law wsX4_init := goodIn_r _ [13, 14, 15, 16, 17, 18, 19, 20, 21, 22, 23, 24, 25, 26, 27, 28, 29, 30, 31, 32, 33, 34, 35, 36, 37, 38, 39, 40, 41, 42, 43, 44, 45, 46, 47, 48, 49, 6, 50, 51, 52, 53, 54, 55, 56, 57, 58, 59, 60, 61, 62, 63, 64, 65, 66, 67, 68, 69, 70, 71, 72, 73, 74, 75, 76, 626, 627, 628, 629, 630, 631, 632, 633, 634, 668, 669, 670, 671, 672, 673, 674, 675, 676, 677, 678, 679, 680, 681, 682, 683, 684, 685, 686, 687, 688, 689, 690, 691, 692, 693, 694, 695] (by decide +kernel) (by decide +kernel)
set_option maxRecDepth 20000 in
theorem gL_law_X4_init : GoodIn wsL_law (wsX4_init) := ggL_law_X4_init
set_option maxRecDepth 20000 in
theorem ggL_law_X5_init : GoodIn wsL_law wsX5_init := goodIn_r _ [79, 80, 15, 16, 17, 81, 82, 83, 84, 85, 86, 87, 88, 89, 90, 91, 92, 6, 93, 94, 95, 96, 97, 98, 99, 100, 101, 635, 636, 637, 638, 639, 640, 641, 642, 643, 644, 645, 646, 647, 648, 649, 650, 651, 652, 653, 654, 655, 656, 657, 658, 659, 660, 661, 662, 663, 664, 665, 666, 667] (by decide +kernel) (by decide +kernel)
set_option maxRecDepth 20000 in
theorem gL_law_X5_init : GoodIn wsL_law (wsX5_init) := ggL_law_X5_init
set_option maxRecDepth 20000 in
theorem ggL_law_L_times : GoodIn wsL_law wsL_times := goodIn_r _ [104, 105, 106, 107, 2, 108, 29, 109, 110, 111, 112, 113, 114, 115, 116, 117, 118, 119, 120, 121, 122, 28, 123, 53, 626, 627, 628, 629, 630, 631, 632, 633, 634, 668, 669, 670, 671, 672, 673, 674, 675, 696, 697, 698, 699, 700, 701] (by decide +kernel) (by decide +kernel)
set_option maxRecDepth 20000 in
theorem gL_law_L_times : GoodIn wsL_law (va_wsS RL 52 yL_times wsL_times) := goodIn_app (goodIn_of _ (by decide +kernel)) ggL_law_L_times
set_option maxRecDepth 20000 in
theorem ggL_law_X5_times : GoodIn wsL_law wsX5_times := goodIn_r _ [127, 101, 128, 81, 129, 130, 131, 132, 5, 133, 100, 134, 135, 136, 137, 138, 635, 636, 637, 638, 639, 640, 641, 642, 643, 644, 645, 646, 647, 648, 649, 650, 651, 652, 653, 654, 655, 656, 657, 658, 659, 660, 661, 662, 663, 664, 665, 666, 667] (by decide +kernel) (by decide +kernel)
set_option maxRecDepth 20000 in
theorem gL_law_X5_times : GoodIn wsL_law (wsV RL 55 RX5 yX5_times wsX5_times) := goodIn_app (goodIn_of _ (by decide +kernel)) ggL_law_X5_times
set_option maxRecDepth 20000 in
theorem ggL_law_X5_thrown : GoodIn wsL_law wsX5_thrown := goodIn_r _ [142, 138, 635, 636, 637, 638, 639, 640, 641, 642, 643, 644, 645, 646, 647, 648, 649, 650, 651, 652, 653, 654, 655, 656, 657, 658, 659, 660, 661, 662, 663, 664, 665, 666, 667] (by decide +kernel) (by decide +kernel)
set_option maxRecDepth 20000 in
theorem gL_law_X5_thrown : GoodIn wsL_law (wsV RL 56 RX5 yX5_thrown wsX5_thrown) := goodIn_app (goodIn_of _ (by decide +kernel)) ggL_law_X5_thrown
set_option maxRecDepth 20000 in
theorem ggL_law_X4_row : GoodIn wsL_law wsX4_row := goodIn_r _ [146, 109, 29, 111, 147, 148, 149, 28, 150, 151, 152, 153, 154, 155, 626, 627, 628, 629, 630, 631, 632, 633, 634, 668, 669, 670, 671, 672, 673, 674, 675] (by decide +kernel) (by decide +kernel)
set_option maxRecDepth 20000 in
theorem gL_law_X4_row : GoodIn wsL_law (wsV RL 60 RX4 yX4_row wsX4_row) := goodIn_app (goodIn_of _ (by decide +kernel)) ggL_law_X4_row
set_option maxRecDepth 20000 in
theorem ggL_law_X5_row : GoodIn wsL_law wsX5_row := goodIn_r _ [159, 138, 160, 128, 161, 162, 163, 5, 164, 82, 83, 129, 635, 636, 637, 638, 639, 640, 641, 642, 643, 644, 645, 646, 647, 648, 649, 650, 651, 652, 653, 654, 655, 656, 657, 658, 659, 660, 661, 662, 663, 664, 665, 666, 667] (by decide +kernel) (by decide +kernel)
set_option maxRecDepth 20000 in
theorem gL_law_X5_row : GoodIn wsL_law (wsV RL 63 RX5 yX5_row wsX5_row) := goodIn_app (goodIn_of _ (by decide +kernel)) ggL_law_X5_row
set_option maxRecDepth 20000 in
theorem ggL_law_L_entry : GoodIn wsL_law wsL_entry := goodIn_ca (goodIn_r _ [167, 168, 169, 170, 171, 172, 2, 173, 174, 175, 109, 29, 111, 112, 113, 114, 115, 116, 117, 118, 119, 176, 177, 178, 28, 179, 151, 47, 180, 181, 182, 183, 184, 185, 186, 187, 188, 189, 190, 49, 50, 191, 121, 122, 123, 53, 192, 193, 194, 195, 51, 626, 627, 628, 629, 630, 631, 632, 633, 634, 668, 669, 670, 671, 672, 673, 674, 675, 696, 697, 698, 699, 700, 701] (by decide +kernel) (by decide +kernel)) (goodIn_sub (fun _ h => List.mem_append_right _ h) (by decide +kernel))
set_option maxRecDepth 20000 in
theorem gL_law_L_entry : GoodIn wsL_law (va_wsS RL 64 yL_entry wsL_entry) := goodIn_app (goodIn_of _ (by decide +kernel)) ggL_law_L_entry
set_option maxRecDepth 20000 in
theorem ggL_law_X5_entry : GoodIn wsL_law wsX5_entry := goodIn_r _ [199, 160, 128, 82, 83, 129, 130, 131, 132, 5, 133, 100, 134, 135, 136, 137, 138, 200, 201, 202, 203, 204, 205, 206, 635, 636, 637, 638, 639, 640, 641, 642, 643, 644, 645, 646, 647, 648, 649, 650, 651, 652, 653, 654, 655, 656, 657, 658, 659, 660, 661, 662, 663, 664, 665, 666, 667] (by decide +kernel) (by decide +kernel)
set_option maxRecDepth 20000 in
theorem gL_law_X5_entry : GoodIn wsL_law (wsV RL 66 RX5 yX5_entry wsX5_entry) := goodIn_app (goodIn_of _ (by decide +kernel)) ggL_law_X5_entry
set_option maxRecDepth 20000 in
theorem ggL_law_X4_cube : GoodIn wsL_law wsX4_cube := goodIn_r _ [210, 33, 211, 212, 213, 32, 214, 215, 216, 181, 182, 183, 184, 185, 186, 626, 627, 628, 629, 630, 631, 632, 633, 634, 676, 677, 678, 679, 680, 681, 682] (by decide +kernel) (by decide +kernel)
set_option maxRecDepth 20000 in
theorem gL_law_X4_cube : GoodIn wsL_law (wsV RL 67 RX4 yX4_cube wsX4_cube) := goodIn_app (goodIn_of _ (by decide +kernel)) ggL_law_X4_cube
set_option maxRecDepth 20000 in
theorem ggL_law_X5_cube : GoodIn wsL_law wsX5_cube := goodIn_r _ [220, 138, 221, 84, 635, 636, 637, 638, 639, 640, 641, 642, 643, 644, 645, 646, 647, 648, 649, 650, 651, 652, 653, 654, 655, 656, 657, 658, 659, 660, 661, 662, 663, 664, 665, 666, 667] (by decide +kernel) (by decide +kernel)
set_option maxRecDepth 20000 in
theorem gL_law_X5_cube : GoodIn wsL_law (wsV RL 70 RX5 yX5_cube wsX5_cube) := goodIn_app (goodIn_of _ (by decide +kernel)) ggL_law_X5_cube
set_option maxRecDepth 20000 in
theorem ggL_law_L_lay : GoodIn wsL_law wsL_lay := goodIn_ca (goodIn_r _ [224, 168, 169, 225, 226, 227, 2, 228, 174, 175, 29, 33, 109, 112, 113, 114, 115, 116, 117, 118, 119, 229, 230, 231, 28, 232, 52, 233, 234, 235, 32, 236, 215, 237, 238, 239, 240, 241, 242, 243, 147, 148, 149, 150, 151, 244, 245, 246, 247, 248, 249, 250, 251, 252, 216, 181, 182, 183, 184, 185, 186, 253, 254, 255, 256, 257, 258, 259, 260, 261, 262, 263, 264, 265, 266, 267, 268, 269, 270, 271, 272, 273, 274, 275, 276, 277, 278, 58, 279, 280, 281, 282, 283, 111, 284, 285, 286, 287, 288, 153, 154, 155, 289, 188, 189, 190, 49, 47, 50, 191, 121, 122, 123, 53, 192, 193, 194, 195, 51, 290, 291, 292, 293, 626, 627, 628, 629, 630, 631, 632, 633, 634, 668, 669, 670, 671, 672, 673, 674, 675, 696, 697, 698, 699, 700, 701, 676, 677, 678, 679, 680, 681, 682] (by decide +kernel) (by decide +kernel)) (goodIn_sub (fun _ h => List.mem_append_right _ h) (by decide +kernel))
set_option maxRecDepth 20000 in
theorem gL_law_L_lay : GoodIn wsL_law (va_wsS RL 71 yL_lay wsL_lay) := goodIn_app (goodIn_of _ (by decide +kernel)) ggL_law_L_lay
set_option maxRecDepth 20000 in
theorem ggL_law_X5_lay : GoodIn wsL_law wsX5_lay := goodIn_r _ [297, 100, 221, 128, 160, 298, 85, 130, 131, 132, 5, 133, 134, 135, 136, 137, 138, 299, 300, 301, 302, 303, 304, 305, 306, 307, 308, 309, 310, 311, 312, 84, 313, 314, 315, 316, 317, 318, 319, 161, 162, 163, 164, 82, 83, 129, 635, 636, 637, 638, 639, 640, 641, 642, 643, 644, 645, 646, 647, 648, 649, 650, 651, 652, 653, 654, 655, 656, 657, 658, 659, 660, 661, 662, 663, 664, 665, 666, 667] (by decide +kernel) (by decide +kernel)
set_option maxRecDepth 20000 in
theorem gL_law_X5_lay : GoodIn wsL_law (wsV RL 74 RX5 yX5_lay wsX5_lay) := goodIn_app (goodIn_of _ (by decide +kernel)) ggL_law_X5_lay
set_option maxRecDepth 20000 in
theorem ggL_law_L_take : GoodIn wsL_law wsL_take := goodIn_r _ [322, 323, 324, 325, 2, 326, 109, 29, 327, 18, 111, 328, 329, 330, 331, 332, 117, 118, 119, 333, 334, 335, 28, 336, 337, 151, 51, 338, 339, 340, 341, 53, 342, 343, 344, 345, 50, 54, 346, 347, 348, 349, 350, 351, 352, 353, 354, 355, 356, 52, 626, 627, 628, 629, 630, 631, 632, 633, 634, 668, 669, 670, 671, 672, 673, 674, 675, 696, 697, 698, 699, 700, 701] (by decide +kernel) (by decide +kernel)
set_option maxRecDepth 20000 in
theorem gL_law_L_take : GoodIn wsL_law (va_wsS RL 75 yL_take wsL_take) := goodIn_app (goodIn_of _ (by decide +kernel)) ggL_law_L_take
set_option maxRecDepth 20000 in
theorem ggL_law_X5_take : GoodIn wsL_law wsX5_take := goodIn_r _ [360, 86, 128, 129, 361, 362, 363, 5, 364, 160, 134, 135, 136, 137, 138, 365, 366, 367, 368, 89, 92, 98, 369, 370, 371, 372, 100, 99, 83, 200, 201, 202, 203, 82, 373, 374, 375, 376, 377, 378, 379, 380, 101, 381, 382, 383, 384, 81, 635, 636, 637, 638, 639, 640, 641, 642, 643, 644, 645, 646, 647, 648, 649, 650, 651, 652, 653, 654, 655, 656, 657, 658, 659, 660, 661, 662, 663, 664, 665, 666, 667] (by decide +kernel) (by decide +kernel)
set_option maxRecDepth 20000 in
theorem gL_law_X5_take : GoodIn wsL_law (wsV RL 78 RX5 yX5_take wsX5_take) := goodIn_app (goodIn_of _ (by decide +kernel)) ggL_law_X5_take
set_option maxRecDepth 20000 in
theorem ggL_law_X4_untake : GoodIn wsL_law wsX4_untake := goodIn_r _ [388, 109, 18, 327, 389, 111, 626, 627, 628, 629, 630, 631, 632, 633, 634] (by decide +kernel) (by decide +kernel)
set_option maxRecDepth 20000 in
theorem gL_law_X4_untake : GoodIn wsL_law (wsV RL 79 RX4 yX4_untake wsX4_untake) := goodIn_app (goodIn_of _ (by decide +kernel)) ggL_law_X4_untake
set_option maxRecDepth 20000 in
theorem ggL_law_X5_untake : GoodIn wsL_law wsX5_untake := goodIn_r _ [393, 138, 128, 129, 86, 635, 636, 637, 638, 639, 640, 641, 642, 643, 644, 645, 646, 647, 648, 649, 650, 651, 652, 653, 654, 655, 656, 657, 658, 659, 660, 661, 662, 663, 664, 665, 666, 667] (by decide +kernel) (by decide +kernel)
set_option maxRecDepth 20000 in
theorem gL_law_X5_untake : GoodIn wsL_law (wsV RL 82 RX5 yX5_untake wsX5_untake) := goodIn_app (goodIn_of _ (by decide +kernel)) ggL_law_X5_untake
set_option maxRecDepth 20000 in
theorem ggL_law_L_open : GoodIn wsL_law wsL_open := goodIn_r _ [396, 397, 398, 399, 2, 400, 29, 327, 401, 112, 113, 114, 115, 116, 117, 118, 119, 333, 334, 335, 28, 336, 337, 151, 51, 338, 339, 340, 341, 53, 342, 343, 344, 345, 50, 54, 346, 347, 348, 349, 350, 351, 352, 353, 354, 355, 356, 52, 402, 626, 627, 628, 629, 630, 631, 632, 633, 634, 668, 669, 670, 671, 672, 673, 674, 675, 696, 697, 698, 699, 700, 701] (by decide +kernel) (by decide +kernel)
set_option maxRecDepth 20000 in
theorem gL_law_L_open : GoodIn wsL_law (va_wsS RL 83 yL_open wsL_open) := goodIn_app (goodIn_of _ (by decide +kernel)) ggL_law_L_open
set_option maxRecDepth 20000 in
theorem ggL_law_X5_open : GoodIn wsL_law wsX5_open := goodIn_r _ [406, 160, 130, 131, 132, 5, 133, 100, 134, 135, 136, 137, 138, 365, 366, 367, 368, 89, 92, 98, 128, 86, 369, 370, 371, 372, 99, 83, 200, 201, 202, 203, 82, 373, 374, 375, 376, 377, 378, 379, 380, 101, 381, 382, 383, 384, 81, 635, 636, 637, 638, 639, 640, 641, 642, 643, 644, 645, 646, 647, 648, 649, 650, 651, 652, 653, 654, 655, 656, 657, 658, 659, 660, 661, 662, 663, 664, 665, 666, 667] (by decide +kernel) (by decide +kernel)
set_option maxRecDepth 20000 in
theorem gL_law_X5_open : GoodIn wsL_law (wsV RL 85 RX5 yX5_open wsX5_open) := goodIn_app (goodIn_of _ (by decide +kernel)) ggL_law_X5_open
set_option maxRecDepth 20000 in
theorem ggL_law_X4_ways : GoodIn wsL_law wsX4_ways := goodIn_r _ [410, 411, 111, 41, 327, 412, 413, 414, 40, 415, 416, 417, 71, 72, 76, 74, 418, 419, 73, 420, 334, 335, 28, 336, 337, 151, 51, 338, 339, 340, 341, 53, 342, 343, 344, 345, 50, 54, 346, 347, 348, 349, 350, 351, 352, 353, 354, 355, 356, 52, 421, 422, 423, 424, 425, 426, 427, 428, 429, 430, 431, 432, 433, 434, 435, 75, 436, 437, 438, 439, 440, 441, 442, 443, 182, 444, 445, 446, 447, 448, 449, 450, 451, 452, 453, 626, 627, 628, 629, 630, 631, 632, 633, 634, 688, 689, 690, 691, 692, 693, 694, 695, 668, 669, 670, 671, 672, 673, 674, 675] (by decide +kernel) (by decide +kernel)
set_option maxRecDepth 20000 in
theorem gL_law_X4_ways : GoodIn wsL_law (wsV RL 86 RX4 yX4_ways wsX4_ways) := goodIn_app (goodIn_of _ (by decide +kernel)) ggL_law_X4_ways
set_option maxRecDepth 20000 in
theorem ggL_law_X5_ways : GoodIn wsL_law wsX5_ways := goodIn_r _ [457, 138, 458, 93, 459, 460, 461, 129, 462, 463, 464, 465, 5, 466, 467, 90, 91, 160, 92, 87, 365, 366, 367, 368, 89, 98, 128, 86, 369, 370, 371, 372, 100, 99, 83, 200, 201, 202, 203, 82, 468, 469, 470, 471, 472, 473, 474, 475, 476, 101, 81, 477, 478, 479, 480, 481, 482, 483, 484, 381, 382, 383, 384, 485, 486, 487, 488, 635, 636, 637, 638, 639, 640, 641, 642, 643, 644, 645, 646, 647, 648, 649, 650, 651, 652, 653, 654, 655, 656, 657, 658, 659, 660, 661, 662, 663, 664, 665, 666, 667] (by decide +kernel) (by decide +kernel)
set_option maxRecDepth 20000 in
theorem gL_law_X5_ways : GoodIn wsL_law (wsV RL 89 RX5 yX5_ways wsX5_ways) := goodIn_app (goodIn_of _ (by decide +kernel)) ggL_law_X5_ways
set_option maxRecDepth 20000 in
theorem ggL_law_X4_nodes : GoodIn wsL_law wsX4_nodes := goodIn_r _ [492, 41, 493, 626, 627, 628, 629, 630, 631, 632, 633, 634, 688, 689, 690, 691, 692, 693, 694, 695] (by decide +kernel) (by decide +kernel)
set_option maxRecDepth 20000 in
theorem gL_law_X4_nodes : GoodIn wsL_law (wsV RL 90 RX4 yX4_nodes wsX4_nodes) := goodIn_app (goodIn_of _ (by decide +kernel)) ggL_law_X4_nodes
set_option maxRecDepth 20000 in
theorem ggL_law_X5_nodes : GoodIn wsL_law wsX5_nodes := goodIn_r _ [497, 138, 460, 635, 636, 637, 638, 639, 640, 641, 642, 643, 644, 645, 646, 647, 648, 649, 650, 651, 652, 653, 654, 655, 656, 657, 658, 659, 660, 661, 662, 663, 664, 665, 666, 667] (by decide +kernel) (by decide +kernel)
set_option maxRecDepth 20000 in
theorem gL_law_X5_nodes : GoodIn wsL_law (wsV RL 93 RX5 yX5_nodes wsX5_nodes) := goodIn_app (goodIn_of _ (by decide +kernel)) ggL_law_X5_nodes
set_option maxRecDepth 20000 in
theorem ggL_law_X4_way : GoodIn wsL_law wsX4_way := goodIn_r _ [501, 111, 41, 502, 503, 504, 505, 40, 506, 417, 507, 20, 21, 22, 508, 509, 2, 510, 626, 627, 628, 629, 630, 631, 632, 633, 634, 688, 689, 690, 691, 692, 693, 694, 695] (by decide +kernel) (by decide +kernel)
set_option maxRecDepth 20000 in
theorem gL_law_X4_way : GoodIn wsL_law (wsV RL 94 RX4 yX4_way wsX4_way) := goodIn_app (goodIn_of _ (by decide +kernel)) ggL_law_X4_way
set_option maxRecDepth 20000 in
theorem ggL_law_X5_way : GoodIn wsL_law wsX5_way := goodIn_r _ [514, 138, 129, 160, 93, 635, 636, 637, 638, 639, 640, 641, 642, 643, 644, 645, 646, 647, 648, 649, 650, 651, 652, 653, 654, 655, 656, 657, 658, 659, 660, 661, 662, 663, 664, 665, 666, 667] (by decide +kernel) (by decide +kernel)
set_option maxRecDepth 20000 in
theorem gL_law_X5_way : GoodIn wsL_law (wsV RL 97 RX5 yX5_way wsX5_way) := goodIn_app (goodIn_of _ (by decide +kernel)) ggL_law_X5_way
set_option maxRecDepth 20000 in
theorem ggL_law_X4_turn : GoodIn wsL_law wsX4_turn := goodIn_r _ [518, 37, 519, 520, 521, 36, 522, 523, 63, 626, 627, 628, 629, 630, 631, 632, 633, 634, 683, 684, 685, 686, 687] (by decide +kernel) (by decide +kernel)
set_option maxRecDepth 20000 in
theorem gL_law_X4_turn : GoodIn wsL_law (wsV RL 98 RX4 yX4_turn wsX4_turn) := goodIn_app (goodIn_of _ (by decide +kernel)) ggL_law_X4_turn
set_option maxRecDepth 20000 in
theorem ggL_law_X5_turn : GoodIn wsL_law wsX5_turn := goodIn_r _ [527, 138, 528, 95, 635, 636, 637, 638, 639, 640, 641, 642, 643, 644, 645, 646, 647, 648, 649, 650, 651, 652, 653, 654, 655, 656, 657, 658, 659, 660, 661, 662, 663, 664, 665, 666, 667] (by decide +kernel) (by decide +kernel)
set_option maxRecDepth 20000 in
theorem gL_law_X5_turn : GoodIn wsL_law (wsV RL 101 RX5 yX5_turn wsX5_turn) := goodIn_app (goodIn_of _ (by decide +kernel)) ggL_law_X5_turn
set_option maxRecDepth 20000 in
theorem ggL_law_L_exchange : GoodIn wsL_law wsL_exchange := goodIn_r _ [531, 532, 533, 534, 2, 535, 37, 536, 117, 118, 119, 112, 113, 114, 115, 29, 116, 537, 538, 539, 36, 540, 63, 626, 627, 628, 629, 630, 631, 632, 633, 634, 683, 684, 685, 686, 687, 696, 697, 698, 699, 700, 701, 668, 669, 670, 671, 672, 673, 674, 675] (by decide +kernel) (by decide +kernel)
set_option maxRecDepth 20000 in
theorem gL_law_L_exchange : GoodIn wsL_law (va_wsS RL 102 yL_exchange wsL_exchange) := goodIn_app (goodIn_of _ (by decide +kernel)) ggL_law_L_exchange
set_option maxRecDepth 20000 in
theorem ggL_law_X5_exchange : GoodIn wsL_law wsX5_exchange := goodIn_r _ [544, 528, 95, 130, 131, 132, 5, 133, 100, 134, 135, 136, 137, 138, 635, 636, 637, 638, 639, 640, 641, 642, 643, 644, 645, 646, 647, 648, 649, 650, 651, 652, 653, 654, 655, 656, 657, 658, 659, 660, 661, 662, 663, 664, 665, 666, 667] (by decide +kernel) (by decide +kernel)
set_option maxRecDepth 20000 in
theorem gL_law_X5_exchange : GoodIn wsL_law (wsV RL 105 RX5 yX5_exchange wsX5_exchange) := goodIn_app (goodIn_of _ (by decide +kernel)) ggL_law_X5_exchange
set_option maxRecDepth 20000 in
theorem ggL_law_X4_classes : GoodIn wsL_law wsX4_classes := goodIn_r _ [548, 29, 37, 42, 502, 549, 550, 551, 28, 552, 151, 47, 553, 554, 555, 556, 52, 49, 557, 558, 559, 36, 560, 523, 561, 562, 563, 564, 66, 565, 566, 63, 567, 568, 569, 570, 571, 64, 572, 573, 574, 575, 576, 577, 578, 579, 580, 581, 412, 413, 414, 40, 415, 416, 417, 71, 72, 76, 74, 418, 419, 73, 420, 334, 335, 336, 337, 51, 338, 339, 340, 341, 53, 342, 343, 344, 345, 50, 54, 346, 347, 348, 349, 350, 351, 352, 353, 354, 355, 356, 421, 422, 423, 424, 425, 426, 427, 428, 429, 430, 431, 432, 433, 434, 435, 75, 436, 437, 438, 439, 440, 441, 442, 443, 182, 444, 445, 446, 447, 448, 449, 450, 451, 452, 453, 582, 583, 584, 585, 65, 586, 587, 588, 589, 590, 591, 592, 593, 594, 595, 596, 626, 627, 628, 629, 630, 631, 632, 633, 634, 688, 689, 690, 691, 692, 693, 694, 695, 668, 669, 670, 671, 672, 673, 674, 675, 683, 684, 685, 686, 687] (by decide +kernel) (by decide +kernel)
set_option maxRecDepth 20000 in
theorem gL_law_X4_classes : GoodIn wsL_law (wsV RL 106 RX4 yX4_classes wsX4_classes) := goodIn_app (goodIn_of _ (by decide +kernel)) ggL_law_X4_classes
set_option maxRecDepth 20000 in
theorem ggL_law_X5_classes : GoodIn wsL_law wsX5_classes := goodIn_r _ [600, 138, 128, 94, 462, 461, 97, 528, 160, 96, 601, 602, 603, 5, 604, 100, 95, 101, 81, 605, 606, 607, 608, 82, 83, 204, 205, 206, 200, 201, 202, 203, 463, 464, 465, 466, 459, 467, 90, 91, 92, 87, 365, 366, 367, 368, 89, 98, 86, 369, 370, 371, 372, 99, 468, 469, 470, 471, 472, 473, 474, 475, 476, 477, 478, 479, 480, 481, 482, 483, 484, 381, 382, 383, 384, 485, 486, 487, 488, 609, 610, 611, 612, 635, 636, 637, 638, 639, 640, 641, 642, 643, 644, 645, 646, 647, 648, 649, 650, 651, 652, 653, 654, 655, 656, 657, 658, 659, 660, 661, 662, 663, 664, 665, 666, 667] (by decide +kernel) (by decide +kernel)
set_option maxRecDepth 20000 in
theorem gL_law_X5_classes : GoodIn wsL_law (wsV RL 109 RX5 yX5_classes wsX5_classes) := goodIn_app (goodIn_of _ (by decide +kernel)) ggL_law_X5_classes
set_option maxRecDepth 20000 in
theorem ggL_law_L_tell : GoodIn wsL_law wsL_tell := goodIn_r _ [615, 616, 617, 618, 2, 619, 29, 620, 328, 329, 330, 331, 332, 117, 118, 119, 621, 181, 182, 183, 184, 185, 186, 508, 509, 510, 626, 627, 628, 629, 630, 631, 632, 633, 634, 668, 669, 670, 671, 672, 673, 674, 675, 696, 697, 698, 699, 700, 701] (by decide +kernel) (by decide +kernel)
set_option maxRecDepth 20000 in
theorem gL_law_L_tell : GoodIn wsL_law (va_wsS RL 110 yL_tell wsL_tell) := goodIn_app (goodIn_of _ (by decide +kernel)) ggL_law_L_tell
set_option maxRecDepth 20000 in
theorem ggL_law_X5_tell : GoodIn wsL_law wsX5_tell := goodIn_r _ [625, 82, 100, 361, 362, 363, 5, 364, 160, 134, 135, 136, 137, 138, 204, 205, 206, 200, 201, 202, 203, 635, 636, 637, 638, 639, 640, 641, 642, 643, 644, 645, 646, 647, 648, 649, 650, 651, 652, 653, 654, 655, 656, 657, 658, 659, 660, 661, 662, 663, 664, 665, 666, 667] (by decide +kernel) (by decide +kernel)
set_option maxRecDepth 20000 in
theorem gL_law_X5_tell : GoodIn wsL_law (wsV RL 112 RX5 yX5_tell wsX5_tell) := goodIn_app (goodIn_of _ (by decide +kernel)) ggL_law_X5_tell
