def lw_tblB : List (List Cond) := [k2_sels lw_privs, tables_1_1, tables_1_2, tables_1_3, tables_1_4]
theorem lw_tbl_hb : ∀ r ∈ lw_tblB, ∀ w ∈ r, w ∈ lw_tbl := by
  intro r hr w hw
  simp only [lw_tblB, List.mem_cons, List.not_mem_nil, or_false] at hr
  rcases hr with rfl | rfl | rfl | rfl | rfl
  all_goals simp only [lw_tbl, tables_1, List.mem_append, hw, true_or, or_true]
set_option maxRecDepth 20000 in
theorem in_wsL_law0_r1 : ∀ w ∈ wsL_law0_r1, w ∈ lw_tbl := fun w h => (goodIn_b lw_tblB lw_tbl_hb wsL_law0_r1 [(1, 16), (1, 17), (1, 1), (3, 113), (3, 114), (1, 7), (1, 76), (2, 116), (2, 117), (1, 0), (2, 118), (1, 18), (1, 19), (1, 20), (1, 21), (1, 22), (1, 23), (1, 74), (1, 167), (1, 24), (1, 25), (1, 2), (1, 26), (1, 27)] (by decide +kernel) (by decide +kernel) w h).1
set_option maxRecDepth 20000 in
theorem in_wsL_law0_r2 : ∀ w ∈ wsL_law0_r2, w ∈ lw_tbl := fun w h => (goodIn_b lw_tblB lw_tbl_hb wsL_law0_r2 [(1, 28), (1, 29), (1, 30), (1, 31), (1, 3), (1, 162), (1, 77), (1, 78), (1, 4), (1, 163), (1, 106), (1, 107), (1, 5), (1, 164), (1, 129), (1, 130), (1, 6), (1, 165), (1, 166), (1, 32), (1, 33), (1, 34), (1, 35), (1, 43)] (by decide +kernel) (by decide +kernel) w h).1
set_option maxRecDepth 20000 in
theorem in_wsL_law0_r3 : ∀ w ∈ wsL_law0_r3, w ∈ lw_tbl := fun w h => (goodIn_b lw_tblB lw_tbl_hb wsL_law0_r3 [(1, 75), (1, 47), (1, 49), (1, 52), (1, 36), (1, 39), (1, 40), (1, 80), (1, 81), (1, 82), (1, 83), (1, 108), (1, 109), (1, 110), (1, 111), (1, 113), (1, 114), (1, 115), (1, 112), (1, 131), (1, 132), (1, 133), (1, 134), (1, 136)] (by decide +kernel) (by decide +kernel) w h).1
set_option maxRecDepth 20000 in
theorem in_wsL_law0_r4 : ∀ w ∈ wsL_law0_r4, w ∈ lw_tbl := fun w h => (goodIn_b lw_tblB lw_tbl_hb wsL_law0_r4 [(1, 137), (1, 138), (1, 139), (1, 140), (1, 135), (3, 115), (3, 116), (3, 117), (3, 118), (3, 122), (3, 124), (3, 125), (3, 127), (3, 128), (3, 131), (3, 133), (3, 218), (3, 134), (3, 135), (3, 136), (3, 137), (3, 142), (3, 143), (3, 145)] (by decide +kernel) (by decide +kernel) w h).1
set_option maxRecDepth 20000 in
theorem in_wsL_law0_r5 : ∀ w ∈ wsL_law0_r5, w ∈ lw_tbl := fun w h => (goodIn_b lw_tblB lw_tbl_hb wsL_law0_r5 [(3, 146), (3, 147), (3, 148), (3, 149), (3, 120), (3, 121), (2, 119), (2, 120), (2, 121), (2, 123), (2, 124), (2, 125), (2, 126), (1, 168), (1, 41), (1, 170), (2, 127), (2, 129), (0, 10), (2, 130), (1, 38), (2, 131), (2, 132), (1, 12)] (by decide +kernel) (by decide +kernel) w h).1
set_option maxRecDepth 20000 in
theorem in_wsL_law0_r6 : ∀ w ∈ wsL_law0_r6, w ∈ lw_tbl := fun w h => (goodIn_b lw_tblB lw_tbl_hb wsL_law0_r6 [(2, 202), (2, 203), (2, 204), (2, 205), (3, 219), (3, 220), (3, 221), (3, 222), (3, 130), (3, 141), (3, 223), (3, 225), (0, 19), (3, 226), (3, 227), (3, 229), (0, 20), (3, 230), (3, 119), (1, 190), (1, 191), (1, 192), (1, 193), (1, 194)] (by decide +kernel) (by decide +kernel) w h).1
set_option maxRecDepth 20000 in
theorem in_wsL_law0_r7 : ∀ w ∈ wsL_law0_r7, w ∈ lw_tbl := fun w h => (goodIn_b lw_tblB lw_tbl_hb wsL_law0_r7 [(1, 195), (1, 196), (1, 197), (1, 54), (1, 198), (1, 199), (1, 200), (1, 201), (3, 231), (3, 232), (3, 233), (3, 234), (3, 123), (3, 235), (3, 237), (0, 21), (3, 238), (2, 206), (2, 207), (2, 208), (2, 122), (2, 209), (2, 210), (2, 211)] (by decide +kernel) (by decide +kernel) w h).1
set_option maxRecDepth 20000 in
theorem in_wsL_law0_r8 : ∀ w ∈ wsL_law0_r8, w ∈ lw_tbl := fun w h => (goodIn_b lw_tblB lw_tbl_hb wsL_law0_r8 [(2, 212), (2, 213), (2, 214), (1, 13), (2, 230), (2, 231), (2, 232), (2, 233), (2, 234), (1, 211), (1, 14), (1, 212), (1, 213), (1, 214), (1, 215), (2, 235), (2, 236), (2, 237), (2, 238), (2, 239), (3, 0), (3, 2), (0, 12), (3, 3)] (by decide +kernel) (by decide +kernel) w h).1
set_option maxRecDepth 20000 in
theorem in_wsL_law0_r9 : ∀ w ∈ wsL_law0_r9, w ∈ lw_tbl := fun w h => (goodIn_b lw_tblB lw_tbl_hb wsL_law0_r9 [(3, 239), (4, 0), (4, 1), (4, 2), (4, 3), (4, 5), (0, 22), (4, 6), (4, 7), (4, 8), (4, 9), (1, 202), (1, 203), (1, 204), (1, 205), (1, 206), (1, 207), (1, 208), (1, 209), (1, 85), (1, 210), (4, 10), (4, 11), (4, 12)] (by decide +kernel) (by decide +kernel) w h).1
set_option maxRecDepth 20000 in
theorem in_wsL_law0_r10 : ∀ w ∈ wsL_law0_r10, w ∈ lw_tbl := fun w h => (goodIn_b lw_tblB lw_tbl_hb wsL_law0_r10 [(4, 13), (3, 126), (3, 4), (3, 5), (3, 6), (3, 7), (3, 8), (3, 9), (3, 10), (3, 11), (3, 12), (3, 13), (3, 14), (3, 15), (3, 16), (3, 17), (3, 18), (3, 20), (3, 21), (3, 22), (3, 23), (1, 86), (1, 87), (1, 88)] (by decide +kernel) (by decide +kernel) w h).1
set_option maxRecDepth 20000 in
theorem in_wsL_law0_r11 : ∀ w ∈ wsL_law0_r11, w ∈ lw_tbl := fun w h => (goodIn_b lw_tblB lw_tbl_hb wsL_law0_r11 [(3, 24), (3, 25), (3, 26), (3, 27), (1, 89), (1, 90), (3, 28), (3, 29), (3, 30), (3, 31), (3, 32), (3, 33), (3, 34), (3, 36), (3, 38), (0, 13), (3, 39), (3, 40), (3, 41), (3, 42), (3, 43), (3, 44), (3, 45), (3, 46)] (by decide +kernel) (by decide +kernel) w h).1
set_option maxRecDepth 20000 in
theorem in_wsL_law0_r12 : ∀ w ∈ wsL_law0_r12, w ∈ lw_tbl := fun w h => (goodIn_b lw_tblB lw_tbl_hb wsL_law0_r12 [(3, 48), (0, 14), (3, 49), (3, 50), (3, 52), (0, 15), (3, 53), (3, 54), (3, 56), (0, 16), (3, 57), (3, 58), (3, 60), (0, 17), (3, 61), (1, 84), (3, 62), (3, 63), (3, 64), (3, 65), (3, 66), (3, 67), (3, 68), (3, 69)] (by decide +kernel) (by decide +kernel) w h).1
set_option maxRecDepth 20000 in
theorem in_wsL_law0_r13 : ∀ w ∈ wsL_law0_r13, w ∈ lw_tbl := fun w h => (goodIn_b lw_tblB lw_tbl_hb wsL_law0_r13 [(3, 70), (3, 71), (4, 14), (4, 15), (4, 16), (4, 17), (3, 129), (4, 18), (4, 20), (0, 23), (4, 21), (4, 22), (4, 23), (4, 24), (4, 25), (4, 26), (4, 27), (4, 28), (4, 30), (0, 24), (4, 31), (4, 32), (4, 33), (4, 34)] (by decide +kernel) (by decide +kernel) w h).1
