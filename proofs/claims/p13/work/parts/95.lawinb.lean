set_option maxRecDepth 20000 in
theorem in_wsL_law0_r14 : ∀ w ∈ wsL_law0_r14, w ∈ lw_tbl := fun w h => (goodIn_b lw_tblB lw_tbl_hb wsL_law0_r14 [(4, 35), (4, 37), (0, 25), (4, 38), (3, 72), (3, 73), (3, 74), (3, 75), (3, 76), (3, 77), (3, 78), (1, 169), (3, 79), (3, 81), (0, 18), (3, 82), (1, 56), (3, 84), (1, 231), (1, 232), (1, 233), (2, 12), (1, 234), (1, 235)] (by decide +kernel) (by decide +kernel) w h).1
set_option maxRecDepth 20000 in
theorem in_wsL_law0_r15 : ∀ w ∈ wsL_law0_r15, w ∈ lw_tbl := fun w h => (goodIn_b lw_tblB lw_tbl_hb wsL_law0_r15 [(1, 236), (1, 237), (1, 238), (1, 239), (2, 0), (2, 1), (2, 2), (2, 3), (1, 15), (2, 4), (2, 5), (2, 6), (2, 7), (2, 8), (2, 9), (2, 10), (2, 11), (4, 39), (4, 40), (4, 41), (4, 42), (4, 43), (4, 45), (0, 26)] (by decide +kernel) (by decide +kernel) w h).1
set_option maxRecDepth 20000 in
theorem in_wsL_law0_r16 : ∀ w ∈ wsL_law0_r16, w ∈ lw_tbl := fun w h => (goodIn_b lw_tblB lw_tbl_hb wsL_law0_r16 [(4, 46), (4, 47), (4, 49), (0, 27), (4, 50), (4, 51), (4, 53), (0, 28), (4, 54), (4, 55), (4, 57), (0, 29), (4, 58), (4, 59), (4, 61), (0, 30), (4, 62), (4, 63), (4, 65), (0, 31), (4, 66), (1, 216), (1, 217), (1, 218)] (by decide +kernel) (by decide +kernel) w h).1
set_option maxRecDepth 20000 in
theorem in_wsL_law0_r17 : ∀ w ∈ wsL_law0_r17, w ∈ lw_tbl := fun w h => (goodIn_b lw_tblB lw_tbl_hb wsL_law0_r17 [(1, 219), (1, 220), (4, 67), (4, 68), (4, 69), (4, 70), (3, 85), (3, 86), (3, 87), (3, 88), (3, 89), (3, 90), (3, 91), (1, 51), (3, 92), (4, 71), (4, 72), (4, 73), (4, 74), (1, 221), (1, 222), (1, 223), (1, 224), (1, 225)] (by decide +kernel) (by decide +kernel) w h).1
set_option maxRecDepth 20000 in
theorem in_wsL_law0_r18 : ∀ w ∈ wsL_law0_r18, w ∈ lw_tbl := fun w h => (goodIn_b lw_tblB lw_tbl_hb wsL_law0_r18 [(1, 226), (1, 227), (1, 228), (1, 229), (1, 142), (1, 144), (2, 28), (2, 19), (1, 230), (2, 13), (2, 14), (2, 15), (2, 17), (0, 0), (2, 18), (1, 50), (2, 20), (2, 21), (2, 22), (2, 23), (2, 24), (2, 26), (0, 1), (2, 27)] (by decide +kernel) (by decide +kernel) w h).1
set_option maxRecDepth 20000 in
theorem in_wsL_law0_r19 : ∀ w ∈ wsL_law0_r19, w ∈ lw_tbl := fun w h => (goodIn_b lw_tblB lw_tbl_hb wsL_law0_r19 [(2, 29), (2, 30), (2, 31), (2, 32), (2, 33), (2, 34), (2, 35), (2, 36), (2, 37), (2, 38), (2, 39), (2, 41), (0, 2), (2, 42), (2, 43), (1, 44), (1, 53), (2, 44), (4, 75), (4, 76), (4, 77), (4, 78), (4, 79), (3, 138)] (by decide +kernel) (by decide +kernel) w h).1
set_option maxRecDepth 20000 in
theorem in_wsL_law0_r20 : ∀ w ∈ wsL_law0_r20, w ∈ lw_tbl := fun w h => (goodIn_b lw_tblB lw_tbl_hb wsL_law0_r20 [(3, 150), (3, 139), (3, 140), (4, 80), (4, 82), (0, 32), (4, 83), (3, 132), (4, 84), (4, 86), (0, 33), (4, 87), (4, 88), (4, 89), (4, 91), (0, 34), (4, 92), (4, 93), (4, 95), (0, 35), (4, 96), (4, 97), (4, 99), (0, 36)] (by decide +kernel) (by decide +kernel) w h).1
set_option maxRecDepth 20000 in
theorem in_wsL_law0_r21 : ∀ w ∈ wsL_law0_r21, w ∈ lw_tbl := fun w h => (goodIn_b lw_tblB lw_tbl_hb wsL_law0_r21 [(4, 100), (4, 101), (4, 103), (0, 37), (4, 104), (2, 45), (2, 46), (2, 47), (2, 48), (1, 143), (4, 105), (4, 106), (4, 107), (4, 108), (2, 49), (2, 50), (2, 51), (2, 52), (1, 141), (2, 53), (2, 54), (2, 55), (2, 56), (2, 57)] (by decide +kernel) (by decide +kernel) w h).1
set_option maxRecDepth 20000 in
theorem in_wsL_law0_r22 : ∀ w ∈ wsL_law0_r22, w ∈ lw_tbl := fun w h => (goodIn_b lw_tblB lw_tbl_hb wsL_law0_r22 [(2, 58), (2, 59), (2, 60), (4, 109), (4, 110), (4, 111), (4, 112), (2, 61), (2, 62), (2, 63), (2, 64), (2, 65), (2, 66), (2, 67), (2, 68), (1, 116), (4, 113), (4, 114), (4, 115), (4, 116), (3, 144), (3, 93), (3, 94), (3, 95)] (by decide +kernel) (by decide +kernel) w h).1
set_option maxRecDepth 20000 in
theorem in_wsL_law0_r23 : ∀ w ∈ wsL_law0_r23, w ∈ lw_tbl := fun w h => (goodIn_b lw_tblB lw_tbl_hb wsL_law0_r23 [(3, 96), (3, 97), (3, 98), (3, 99), (1, 117), (3, 101), (3, 102), (3, 103), (3, 104), (4, 117), (4, 118), (4, 119), (4, 120), (2, 69), (2, 70), (2, 71), (2, 72), (2, 73), (2, 74), (2, 75), (2, 76), (2, 77), (2, 79), (0, 3)] (by decide +kernel) (by decide +kernel) w h).1
set_option maxRecDepth 20000 in
theorem in_wsL_law0_r24 : ∀ w ∈ wsL_law0_r24, w ∈ lw_tbl := fun w h => (goodIn_b lw_tblB lw_tbl_hb wsL_law0_r24 [(2, 80), (2, 81), (2, 82), (2, 83), (2, 84), (2, 85), (2, 87), (0, 4), (2, 88), (1, 37), (1, 42), (2, 89), (2, 91), (0, 5), (2, 92), (1, 55), (2, 93), (2, 95), (0, 6), (2, 96), (2, 97), (2, 99), (0, 7), (2, 100)] (by decide +kernel) (by decide +kernel) w h).1
set_option maxRecDepth 20000 in
theorem in_wsL_law0_r25 : ∀ w ∈ wsL_law0_r25, w ∈ lw_tbl := fun w h => (goodIn_b lw_tblB lw_tbl_hb wsL_law0_r25 [(1, 45), (1, 48), (2, 101), (2, 102), (2, 103), (2, 104), (2, 105), (2, 107), (0, 8), (2, 108), (2, 109), (2, 110), (2, 111), (2, 112), (2, 114), (0, 9), (2, 115), (4, 121), (4, 122), (4, 123), (4, 124), (4, 125), (4, 127), (0, 38)] (by decide +kernel) (by decide +kernel) w h).1
set_option maxRecDepth 20000 in
theorem in_wsL_law0_r26 : ∀ w ∈ wsL_law0_r26, w ∈ lw_tbl := fun w h => (goodIn_b lw_tblB lw_tbl_hb wsL_law0_r26 [(4, 128), (4, 129), (4, 131), (0, 39), (4, 132), (4, 133), (4, 135), (0, 40), (4, 136), (3, 105), (3, 106), (3, 107), (3, 108), (3, 109), (3, 110), (3, 111), (1, 46), (3, 112), (4, 137), (4, 138), (4, 139), (4, 140)] (by decide +kernel) (by decide +kernel) w h).1
set_option maxRecDepth 20000 in
theorem inb_wsX40 : ∀ w ∈ wsX40, w ∈ lw_tbl := fun w h => (goodIn_p wsX40 [] (by decide +kernel) (by decide +kernel) w h).1
set_option maxRecDepth 20000 in
theorem inb_wsX50 : ∀ w ∈ wsX50, w ∈ lw_tbl := fun w h => (goodIn_p wsX50 [] (by decide +kernel) (by decide +kernel) w h).1
set_option maxRecDepth 20000 in
theorem inb_wsX20 : ∀ w ∈ wsX20, w ∈ lw_tbl := fun w h => (goodIn_p wsX20 [] (by decide +kernel) (by decide +kernel) w h).1
set_option maxRecDepth 20000 in
theorem inb_wsX00 : ∀ w ∈ wsX00, w ∈ lw_tbl := fun w h => (goodIn_p wsX00 [] (by decide +kernel) (by decide +kernel) w h).1
set_option maxRecDepth 20000 in
theorem inb_wsX30 : ∀ w ∈ wsX30, w ∈ lw_tbl := fun w h => (goodIn_p wsX30 [] (by decide +kernel) (by decide +kernel) w h).1
set_option maxRecDepth 20000 in
theorem inb_wsX10 : ∀ w ∈ wsX10, w ∈ lw_tbl := fun w h => (goodIn_p wsX10 [] (by decide +kernel) (by decide +kernel) w h).1
set_option maxRecDepth 20000 in
theorem inb_wsJx000600 : ∀ w ∈ wsJx000600, w ∈ lw_tbl := fun w h => (goodIn_p wsJx000600 [] (by decide +kernel) (by decide +kernel) w h).1
