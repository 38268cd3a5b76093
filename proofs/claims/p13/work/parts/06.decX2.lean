theorem dX2_init_0 : decode cX2_init 0 = .ok (.aload_n 0, 1) := by decide +kernel
theorem dX2_init_1 : decode cX2_init 1 = .ok (.invokespecial 3, 3) := by decide +kernel
theorem dX2_init_4 : decode cX2_init 4 = .ok (.aload_n 0, 1) := by decide +kernel
theorem dX2_init_5 : decode cX2_init 5 = .ok (.bipush 60, 2) := by decide +kernel
theorem dX2_init_7 : decode cX2_init 7 = .ok (.newarray .int, 2) := by decide +kernel
theorem dX2_init_9 : decode cX2_init 9 = .ok (.putfield 9, 3) := by decide +kernel
theorem dX2_init_12 : decode cX2_init 12 = .ok (.aload_n 0, 1) := by decide +kernel
theorem dX2_init_13 : decode cX2_init 13 = .ok (.sipush 1440, 3) := by decide +kernel
theorem dX2_init_16 : decode cX2_init 16 = .ok (.newarray .byte, 2) := by decide +kernel
theorem dX2_init_18 : decode cX2_init 18 = .ok (.putfield 15, 3) := by decide +kernel
theorem dX2_init_21 : decode cX2_init 21 = .ok (.aload_n 0, 1) := by decide +kernel
theorem dX2_init_22 : decode cX2_init 22 = .ok (.bipush 24, 2) := by decide +kernel
theorem dX2_init_24 : decode cX2_init 24 = .ok (.newarray .long, 2) := by decide +kernel
theorem dX2_init_26 : decode cX2_init 26 = .ok (.putfield 19, 3) := by decide +kernel
theorem dX2_init_29 : decode cX2_init 29 = .ok (.aload_n 0, 1) := by decide +kernel
theorem dX2_init_30 : decode cX2_init 30 = .ok (.bipush 60, 2) := by decide +kernel
theorem dX2_init_32 : decode cX2_init 32 = .ok (.newarray .long, 2) := by decide +kernel
theorem dX2_init_34 : decode cX2_init 34 = .ok (.putfield 23, 3) := by decide +kernel
theorem dX2_init_37 : decode cX2_init 37 = .ok (.aload_n 0, 1) := by decide +kernel
theorem dX2_init_38 : decode cX2_init 38 = .ok (.iload_n 1, 1) := by decide +kernel
theorem dX2_init_39 : decode cX2_init 39 = .ok (.putfield 26, 3) := by decide +kernel
theorem dX2_init_42 : decode cX2_init 42 = .ok (.aload_n 0, 1) := by decide +kernel
theorem dX2_init_43 : decode cX2_init 43 = .ok (.iload_n 2, 1) := by decide +kernel
theorem dX2_init_44 : decode cX2_init 44 = .ok (.putfield 30, 3) := by decide +kernel
theorem dX2_init_47 : decode cX2_init 47 = .ok (.aload_n 0, 1) := by decide +kernel
theorem dX2_init_48 : decode cX2_init 48 = .ok (.bipush 24, 2) := by decide +kernel
theorem dX2_init_50 : decode cX2_init 50 = .ok (.newarray .int, 2) := by decide +kernel
theorem dX2_init_52 : decode cX2_init 52 = .ok (.putfield 33, 3) := by decide +kernel
theorem dX2_init_55 : decode cX2_init 55 = .ok (.iconst 0, 1) := by decide +kernel
theorem dX2_init_56 : decode cX2_init 56 = .ok (.istore_n 3, 1) := by decide +kernel
theorem dX2_init_57 : decode cX2_init 57 = .ok (.iload_n 3, 1) := by decide +kernel
theorem dX2_init_58 : decode cX2_init 58 = .ok (.iload_n 2, 1) := by decide +kernel
theorem dX2_init_59 : decode cX2_init 59 = .ok (.if_icmp .ge 16, 3) := by decide +kernel
theorem dX2_init_62 : decode cX2_init 62 = .ok (.aload_n 0, 1) := by decide +kernel
theorem dX2_init_63 : decode cX2_init 63 = .ok (.getfield 33, 3) := by decide +kernel
theorem dX2_init_66 : decode cX2_init 66 = .ok (.iload_n 3, 1) := by decide +kernel
theorem dX2_init_67 : decode cX2_init 67 = .ok (.iconst 1, 1) := by decide +kernel
theorem dX2_init_68 : decode cX2_init 68 = .ok (.iastore, 1) := by decide +kernel
theorem dX2_init_69 : decode cX2_init 69 = .ok (.iinc 3 1, 3) := by decide +kernel
theorem dX2_init_72 : decode cX2_init 72 = .ok (.goto (-15), 3) := by decide +kernel
theorem dX2_init_75 : decode cX2_init 75 = .ok (.return_, 1) := by decide +kernel
theorem dX2_isNeeded_0 : decode cX2_isNeeded 0 = .ok (.iload_n 1, 1) := by decide +kernel
theorem dX2_isNeeded_1 : decode cX2_isNeeded 1 = .ok (.aload_n 0, 1) := by decide +kernel
theorem dX2_isNeeded_2 : decode cX2_isNeeded 2 = .ok (.getfield 30, 3) := by decide +kernel
theorem dX2_isNeeded_5 : decode cX2_isNeeded 5 = .ok (.if_icmp .ge 7, 3) := by decide +kernel
theorem dX2_isNeeded_8 : decode cX2_isNeeded 8 = .ok (.iconst 1, 1) := by decide +kernel
theorem dX2_isNeeded_9 : decode cX2_isNeeded 9 = .ok (.goto 4, 3) := by decide +kernel
theorem dX2_isNeeded_12 : decode cX2_isNeeded 12 = .ok (.iconst 0, 1) := by decide +kernel
theorem dX2_isNeeded_13 : decode cX2_isNeeded 13 = .ok (.ireturn, 1) := by decide +kernel
theorem dX2_room_0 : decode cX2_room 0 = .ok (.bipush 60, 2) := by decide +kernel
theorem dX2_room_2 : decode cX2_room 2 = .ok (.aload_n 0, 1) := by decide +kernel
theorem dX2_room_3 : decode cX2_room 3 = .ok (.getfield 36, 3) := by decide +kernel
theorem dX2_room_6 : decode cX2_room 6 = .ok (.isub, 1) := by decide +kernel
theorem dX2_room_7 : decode cX2_room 7 = .ok (.ireturn, 1) := by decide +kernel
theorem dX2_holdsBox_0 : decode cX2_holdsBox 0 = .ok (.iload_n 1, 1) := by decide +kernel
theorem dX2_holdsBox_1 : decode cX2_holdsBox 1 = .ok (.iconst 1, 1) := by decide +kernel
theorem dX2_holdsBox_2 : decode cX2_holdsBox 2 = .ok (.if_icmp .lt 53, 3) := by decide +kernel
theorem dX2_holdsBox_5 : decode cX2_holdsBox 5 = .ok (.iload_n 2, 1) := by decide +kernel
theorem dX2_holdsBox_6 : decode cX2_holdsBox 6 = .ok (.iconst 1, 1) := by decide +kernel
theorem dX2_holdsBox_7 : decode cX2_holdsBox 7 = .ok (.if_icmp .lt 48, 3) := by decide +kernel
theorem dX2_holdsBox_10 : decode cX2_holdsBox 10 = .ok (.iload_n 3, 1) := by decide +kernel
theorem dX2_holdsBox_11 : decode cX2_holdsBox 11 = .ok (.iconst 1, 1) := by decide +kernel
theorem dX2_holdsBox_12 : decode cX2_holdsBox 12 = .ok (.if_icmp .lt 43, 3) := by decide +kernel
theorem dX2_holdsBox_15 : decode cX2_holdsBox 15 = .ok (.iload_n 1, 1) := by decide +kernel
theorem dX2_holdsBox_16 : decode cX2_holdsBox 16 = .ok (.aload_n 0, 1) := by decide +kernel
theorem dX2_holdsBox_17 : decode cX2_holdsBox 17 = .ok (.getfield 26, 3) := by decide +kernel
theorem dX2_holdsBox_20 : decode cX2_holdsBox 20 = .ok (.if_icmp .gt 35, 3) := by decide +kernel
theorem dX2_holdsBox_23 : decode cX2_holdsBox 23 = .ok (.iload_n 2, 1) := by decide +kernel
theorem dX2_holdsBox_24 : decode cX2_holdsBox 24 = .ok (.aload_n 0, 1) := by decide +kernel
theorem dX2_holdsBox_25 : decode cX2_holdsBox 25 = .ok (.getfield 26, 3) := by decide +kernel
theorem dX2_holdsBox_28 : decode cX2_holdsBox 28 = .ok (.if_icmp .gt 27, 3) := by decide +kernel
theorem dX2_holdsBox_31 : decode cX2_holdsBox 31 = .ok (.iload_n 3, 1) := by decide +kernel
theorem dX2_holdsBox_32 : decode cX2_holdsBox 32 = .ok (.aload_n 0, 1) := by decide +kernel
theorem dX2_holdsBox_33 : decode cX2_holdsBox 33 = .ok (.getfield 26, 3) := by decide +kernel
theorem dX2_holdsBox_36 : decode cX2_holdsBox 36 = .ok (.if_icmp .gt 19, 3) := by decide +kernel
theorem dX2_holdsBox_39 : decode cX2_holdsBox 39 = .ok (.iload_n 1, 1) := by decide +kernel
theorem dX2_holdsBox_40 : decode cX2_holdsBox 40 = .ok (.iload_n 2, 1) := by decide +kernel
theorem dX2_holdsBox_41 : decode cX2_holdsBox 41 = .ok (.imul, 1) := by decide +kernel
theorem dX2_holdsBox_42 : decode cX2_holdsBox 42 = .ok (.iload_n 3, 1) := by decide +kernel
theorem dX2_holdsBox_43 : decode cX2_holdsBox 43 = .ok (.imul, 1) := by decide +kernel
theorem dX2_holdsBox_44 : decode cX2_holdsBox 44 = .ok (.aload_n 0, 1) := by decide +kernel
theorem dX2_holdsBox_45 : decode cX2_holdsBox 45 = .ok (.getfield 26, 3) := by decide +kernel
theorem dX2_holdsBox_48 : decode cX2_holdsBox 48 = .ok (.if_icmp .gt 7, 3) := by decide +kernel
theorem dX2_holdsBox_51 : decode cX2_holdsBox 51 = .ok (.iconst 1, 1) := by decide +kernel
theorem dX2_holdsBox_52 : decode cX2_holdsBox 52 = .ok (.goto 4, 3) := by decide +kernel
theorem dX2_holdsBox_55 : decode cX2_holdsBox 55 = .ok (.iconst 0, 1) := by decide +kernel
theorem dX2_holdsBox_56 : decode cX2_holdsBox 56 = .ok (.ireturn, 1) := by decide +kernel
theorem dX2_addRow_0 : decode cX2_addRow 0 = .ok (.aload_n 0, 1) := by decide +kernel
theorem dX2_addRow_1 : decode cX2_addRow 1 = .ok (.dup, 1) := by decide +kernel
theorem dX2_addRow_2 : decode cX2_addRow 2 = .ok (.getfield 36, 3) := by decide +kernel
theorem dX2_addRow_5 : decode cX2_addRow 5 = .ok (.iconst 1, 1) := by decide +kernel
theorem dX2_addRow_6 : decode cX2_addRow 6 = .ok (.iadd, 1) := by decide +kernel
theorem dX2_addRow_7 : decode cX2_addRow 7 = .ok (.putfield 36, 3) := by decide +kernel
theorem dX2_addRow_10 : decode cX2_addRow 10 = .ok (.aload_n 0, 1) := by decide +kernel
theorem dX2_addRow_11 : decode cX2_addRow 11 = .ok (.getfield 36, 3) := by decide +kernel
theorem dX2_addRow_14 : decode cX2_addRow 14 = .ok (.iconst 1, 1) := by decide +kernel
theorem dX2_addRow_15 : decode cX2_addRow 15 = .ok (.isub, 1) := by decide +kernel
theorem dX2_addRow_16 : decode cX2_addRow 16 = .ok (.ireturn, 1) := by decide +kernel
set_option maxRecDepth 20000 in
theorem ggX2_addRowOf_X2_addRow : GoodIn wsX2_addRowOf wsX2_addRow := goodIn_r _ [6, 7, 25, 26, 27, 28, 29, 30, 31, 32] (by decide +kernel) (by decide +kernel)
set_option maxRecDepth 20000 in
theorem gX2_addRowOf_X2_addRow : GoodIn wsX2_addRowOf (wsV RX2 39 RX2 yX2_addRow wsX2_addRow) := goodIn_app (goodIn_r _ [2, 3, 4, 5] (by decide +kernel) (by decide +kernel)) ggX2_addRowOf_X2_addRow
set_option maxRecDepth 20000 in
theorem ggX2_addRowOf_X2_addToLastRow : GoodIn wsX2_addRowOf wsX2_addToLastRow := goodIn_r _ [11, 7, 12, 13, 14, 15, 16, 17, 5, 18, 19, 20, 21, 22, 23, 24, 25, 26, 27, 28, 29, 30, 31, 32] (by decide +kernel) (by decide +kernel)
set_option maxRecDepth 20000 in
theorem gX2_addRowOf_X2_addToLastRow : GoodIn wsX2_addRowOf (wsV RX2 43 RX2 yX2_addToLastRow wsX2_addToLastRow) := goodIn_app (goodIn_r _ [8, 9, 10, 5] (by decide +kernel) (by decide +kernel)) ggX2_addRowOf_X2_addToLastRow
theorem dX2_addRowOf_0 : decode cX2_addRowOf 0 = .ok (.aload_n 0, 1) := by decide +kernel
theorem dX2_addRowOf_1 : decode cX2_addRowOf 1 = .ok (.invokevirtual 39, 3) := by decide +kernel
theorem dX2_addRowOf_4 : decode cX2_addRowOf 4 = .ok (.pop, 1) := by decide +kernel
theorem dX2_addRowOf_5 : decode cX2_addRowOf 5 = .ok (.iconst 0, 1) := by decide +kernel
theorem dX2_addRowOf_6 : decode cX2_addRowOf 6 = .ok (.istore_n 2, 1) := by decide +kernel
theorem dX2_addRowOf_7 : decode cX2_addRowOf 7 = .ok (.iload_n 2, 1) := by decide +kernel
theorem dX2_addRowOf_8 : decode cX2_addRowOf 8 = .ok (.aload_n 0, 1) := by decide +kernel
theorem dX2_addRowOf_9 : decode cX2_addRowOf 9 = .ok (.getfield 26, 3) := by decide +kernel
theorem dX2_addRowOf_12 : decode cX2_addRowOf 12 = .ok (.if_icmp .ge 23, 3) := by decide +kernel
theorem dX2_addRowOf_15 : decode cX2_addRowOf 15 = .ok (.iload_n 1, 1) := by decide +kernel
theorem dX2_addRowOf_16 : decode cX2_addRowOf 16 = .ok (.iload_n 2, 1) := by decide +kernel
theorem dX2_addRowOf_17 : decode cX2_addRowOf 17 = .ok (.ishr, 1) := by decide +kernel
theorem dX2_addRowOf_18 : decode cX2_addRowOf 18 = .ok (.iconst 1, 1) := by decide +kernel
theorem dX2_addRowOf_19 : decode cX2_addRowOf 19 = .ok (.iand, 1) := by decide +kernel
theorem dX2_addRowOf_20 : decode cX2_addRowOf 20 = .ok (.ifCond .eq 9, 3) := by decide +kernel
theorem dX2_addRowOf_23 : decode cX2_addRowOf 23 = .ok (.aload_n 0, 1) := by decide +kernel
theorem dX2_addRowOf_24 : decode cX2_addRowOf 24 = .ok (.iload_n 2, 1) := by decide +kernel
theorem dX2_addRowOf_25 : decode cX2_addRowOf 25 = .ok (.iconst 0, 1) := by decide +kernel
theorem dX2_addRowOf_26 : decode cX2_addRowOf 26 = .ok (.invokevirtual 43, 3) := by decide +kernel
theorem dX2_addRowOf_29 : decode cX2_addRowOf 29 = .ok (.iinc 2 1, 3) := by decide +kernel
theorem dX2_addRowOf_32 : decode cX2_addRowOf 32 = .ok (.goto (-25), 3) := by decide +kernel
theorem dX2_addRowOf_35 : decode cX2_addRowOf 35 = .ok (.return_, 1) := by decide +kernel
set_option maxRecDepth 20000 in
theorem ggX2_lastRowTakes_J6_bitCount_0f7a4 : GoodIn wsX2_lastRowTakes wsJ6_bitCount_0f7a4 := goodIn_r _ [6, 7, 8, 9] (by decide +kernel) (by decide +kernel)
set_option maxRecDepth 20000 in
theorem gX2_lastRowTakes_J6_bitCount_0f7a4 : GoodIn wsX2_lastRowTakes (va_wsS RX2 47 yJ6_bitCount_0f7a4 wsJ6_bitCount_0f7a4) := goodIn_app (goodIn_r _ [3, 4, 5] (by decide +kernel) (by decide +kernel)) ggX2_lastRowTakes_J6_bitCount_0f7a4
theorem dX2_lastRowTakes_0 : decode cX2_lastRowTakes 0 = .ok (.aload_n 0, 1) := by decide +kernel
theorem dX2_lastRowTakes_1 : decode cX2_lastRowTakes 1 = .ok (.getfield 36, 3) := by decide +kernel
theorem dX2_lastRowTakes_4 : decode cX2_lastRowTakes 4 = .ok (.iconst 1, 1) := by decide +kernel
theorem dX2_lastRowTakes_5 : decode cX2_lastRowTakes 5 = .ok (.if_icmp .ge 5, 3) := by decide +kernel
theorem dX2_lastRowTakes_8 : decode cX2_lastRowTakes 8 = .ok (.iconst 0, 1) := by decide +kernel
theorem dX2_lastRowTakes_9 : decode cX2_lastRowTakes 9 = .ok (.ireturn, 1) := by decide +kernel
theorem dX2_lastRowTakes_10 : decode cX2_lastRowTakes 10 = .ok (.aload_n 0, 1) := by decide +kernel
theorem dX2_lastRowTakes_11 : decode cX2_lastRowTakes 11 = .ok (.getfield 9, 3) := by decide +kernel
theorem dX2_lastRowTakes_14 : decode cX2_lastRowTakes 14 = .ok (.aload_n 0, 1) := by decide +kernel
theorem dX2_lastRowTakes_15 : decode cX2_lastRowTakes 15 = .ok (.getfield 36, 3) := by decide +kernel
theorem dX2_lastRowTakes_18 : decode cX2_lastRowTakes 18 = .ok (.iconst 1, 1) := by decide +kernel
theorem dX2_lastRowTakes_19 : decode cX2_lastRowTakes 19 = .ok (.isub, 1) := by decide +kernel
theorem dX2_lastRowTakes_20 : decode cX2_lastRowTakes 20 = .ok (.iaload, 1) := by decide +kernel
theorem dX2_lastRowTakes_21 : decode cX2_lastRowTakes 21 = .ok (.istore_n 2, 1) := by decide +kernel
theorem dX2_lastRowTakes_22 : decode cX2_lastRowTakes 22 = .ok (.iload_n 2, 1) := by decide +kernel
theorem dX2_lastRowTakes_23 : decode cX2_lastRowTakes 23 = .ok (.iload_n 1, 1) := by decide +kernel
theorem dX2_lastRowTakes_24 : decode cX2_lastRowTakes 24 = .ok (.ishr, 1) := by decide +kernel
theorem dX2_lastRowTakes_25 : decode cX2_lastRowTakes 25 = .ok (.iconst 1, 1) := by decide +kernel
theorem dX2_lastRowTakes_26 : decode cX2_lastRowTakes 26 = .ok (.iand, 1) := by decide +kernel
theorem dX2_lastRowTakes_27 : decode cX2_lastRowTakes 27 = .ok (.ifCond .ne 16, 3) := by decide +kernel
theorem dX2_lastRowTakes_30 : decode cX2_lastRowTakes 30 = .ok (.iload_n 2, 1) := by decide +kernel
theorem dX2_lastRowTakes_31 : decode cX2_lastRowTakes 31 = .ok (.invokestatic 47, 3) := by decide +kernel
theorem dX2_lastRowTakes_34 : decode cX2_lastRowTakes 34 = .ok (.bipush 8, 2) := by decide +kernel
theorem dX2_lastRowTakes_36 : decode cX2_lastRowTakes 36 = .ok (.if_icmp .ge 7, 3) := by decide +kernel
theorem dX2_lastRowTakes_39 : decode cX2_lastRowTakes 39 = .ok (.iconst 1, 1) := by decide +kernel
theorem dX2_lastRowTakes_40 : decode cX2_lastRowTakes 40 = .ok (.goto 4, 3) := by decide +kernel
theorem dX2_lastRowTakes_43 : decode cX2_lastRowTakes 43 = .ok (.iconst 0, 1) := by decide +kernel
theorem dX2_lastRowTakes_44 : decode cX2_lastRowTakes 44 = .ok (.ireturn, 1) := by decide +kernel
set_option maxRecDepth 20000 in
theorem ggX2_addToLastRow_X2_isNeeded : GoodIn wsX2_addToLastRow wsX2_isNeeded := goodIn_r _ [9, 10, 16, 17, 18, 19, 20, 21, 22, 23] (by decide +kernel) (by decide +kernel)
set_option maxRecDepth 20000 in
theorem gX2_addToLastRow_X2_isNeeded : GoodIn wsX2_addToLastRow (wsV RX2 53 RX2 yX2_isNeeded wsX2_isNeeded) := goodIn_app (goodIn_r _ [5, 6, 7, 8] (by decide +kernel) (by decide +kernel)) ggX2_addToLastRow_X2_isNeeded
set_option maxRecDepth 20000 in
theorem ggX2_addToLastRow_X2_markClashes : GoodIn wsX2_addToLastRow wsX2_markClashes := goodIn_r _ [14, 4, 2, 15, 16, 17, 18, 19, 20, 21, 22, 23] (by decide +kernel) (by decide +kernel)
set_option maxRecDepth 20000 in
theorem gX2_addToLastRow_X2_markClashes : GoodIn wsX2_addToLastRow (wsV RX2 57 RX2 yX2_markClashes wsX2_markClashes) := goodIn_app (goodIn_r _ [11, 12, 13, 8] (by decide +kernel) (by decide +kernel)) ggX2_addToLastRow_X2_markClashes
theorem dX2_addToLastRow_0 : decode cX2_addToLastRow 0 = .ok (.aload_n 0, 1) := by decide +kernel
theorem dX2_addToLastRow_1 : decode cX2_addToLastRow 1 = .ok (.getfield 36, 3) := by decide +kernel
theorem dX2_addToLastRow_4 : decode cX2_addToLastRow 4 = .ok (.iconst 1, 1) := by decide +kernel
theorem dX2_addToLastRow_5 : decode cX2_addToLastRow 5 = .ok (.isub, 1) := by decide +kernel
theorem dX2_addToLastRow_6 : decode cX2_addToLastRow 6 = .ok (.istore_n 3, 1) := by decide +kernel
theorem dX2_addToLastRow_7 : decode cX2_addToLastRow 7 = .ok (.iload_n 3, 1) := by decide +kernel
theorem dX2_addToLastRow_8 : decode cX2_addToLastRow 8 = .ok (.ifCond .lt 9, 3) := by decide +kernel
theorem dX2_addToLastRow_11 : decode cX2_addToLastRow 11 = .ok (.iload_n 3, 1) := by decide +kernel
theorem dX2_addToLastRow_12 : decode cX2_addToLastRow 12 = .ok (.bipush 60, 2) := by decide +kernel
theorem dX2_addToLastRow_14 : decode cX2_addToLastRow 14 = .ok (.if_icmp .lt 4, 3) := by decide +kernel
theorem dX2_addToLastRow_17 : decode cX2_addToLastRow 17 = .ok (.return_, 1) := by decide +kernel
theorem dX2_addToLastRow_18 : decode cX2_addToLastRow 18 = .ok (.aload_n 0, 1) := by decide +kernel
theorem dX2_addToLastRow_19 : decode cX2_addToLastRow 19 = .ok (.iload_n 1, 1) := by decide +kernel
theorem dX2_addToLastRow_20 : decode cX2_addToLastRow 20 = .ok (.invokevirtual 53, 3) := by decide +kernel
theorem dX2_addToLastRow_23 : decode cX2_addToLastRow 23 = .ok (.ifCond .ne 23, 3) := by decide +kernel
theorem dX2_addToLastRow_26 : decode cX2_addToLastRow 26 = .ok (.aload_n 0, 1) := by decide +kernel
theorem dX2_addToLastRow_27 : decode cX2_addToLastRow 27 = .ok (.iload_n 3, 1) := by decide +kernel
theorem dX2_addToLastRow_28 : decode cX2_addToLastRow 28 = .ok (.iload_n 1, 1) := by decide +kernel
theorem dX2_addToLastRow_29 : decode cX2_addToLastRow 29 = .ok (.iload_n 2, 1) := by decide +kernel
theorem dX2_addToLastRow_30 : decode cX2_addToLastRow 30 = .ok (.invokevirtual 57, 3) := by decide +kernel
theorem dX2_addToLastRow_33 : decode cX2_addToLastRow 33 = .ok (.aload_n 0, 1) := by decide +kernel
theorem dX2_addToLastRow_34 : decode cX2_addToLastRow 34 = .ok (.getfield 15, 3) := by decide +kernel
theorem dX2_addToLastRow_37 : decode cX2_addToLastRow 37 = .ok (.iload_n 3, 1) := by decide +kernel
theorem dX2_addToLastRow_38 : decode cX2_addToLastRow 38 = .ok (.bipush 24, 2) := by decide +kernel
theorem dX2_addToLastRow_40 : decode cX2_addToLastRow 40 = .ok (.imul, 1) := by decide +kernel
theorem dX2_addToLastRow_41 : decode cX2_addToLastRow 41 = .ok (.iload_n 1, 1) := by decide +kernel
theorem dX2_addToLastRow_42 : decode cX2_addToLastRow 42 = .ok (.iadd, 1) := by decide +kernel
theorem dX2_addToLastRow_43 : decode cX2_addToLastRow 43 = .ok (.iload_n 2, 1) := by decide +kernel
theorem dX2_addToLastRow_44 : decode cX2_addToLastRow 44 = .ok (.i2b, 1) := by decide +kernel
theorem dX2_addToLastRow_45 : decode cX2_addToLastRow 45 = .ok (.bastore, 1) := by decide +kernel
theorem dX2_addToLastRow_46 : decode cX2_addToLastRow 46 = .ok (.aload_n 0, 1) := by decide +kernel
theorem dX2_addToLastRow_47 : decode cX2_addToLastRow 47 = .ok (.getfield 9, 3) := by decide +kernel
theorem dX2_addToLastRow_50 : decode cX2_addToLastRow 50 = .ok (.iload_n 3, 1) := by decide +kernel
theorem dX2_addToLastRow_51 : decode cX2_addToLastRow 51 = .ok (.dup2, 1) := by decide +kernel
theorem dX2_addToLastRow_52 : decode cX2_addToLastRow 52 = .ok (.iaload, 1) := by decide +kernel
theorem dX2_addToLastRow_53 : decode cX2_addToLastRow 53 = .ok (.iconst 1, 1) := by decide +kernel
theorem dX2_addToLastRow_54 : decode cX2_addToLastRow 54 = .ok (.iload_n 1, 1) := by decide +kernel
theorem dX2_addToLastRow_55 : decode cX2_addToLastRow 55 = .ok (.ishl, 1) := by decide +kernel
theorem dX2_addToLastRow_56 : decode cX2_addToLastRow 56 = .ok (.ior, 1) := by decide +kernel
theorem dX2_addToLastRow_57 : decode cX2_addToLastRow 57 = .ok (.iastore, 1) := by decide +kernel
theorem dX2_addToLastRow_58 : decode cX2_addToLastRow 58 = .ok (.aload_n 0, 1) := by decide +kernel
theorem dX2_addToLastRow_59 : decode cX2_addToLastRow 59 = .ok (.getfield 19, 3) := by decide +kernel
theorem dX2_addToLastRow_62 : decode cX2_addToLastRow 62 = .ok (.iload_n 1, 1) := by decide +kernel
theorem dX2_addToLastRow_63 : decode cX2_addToLastRow 63 = .ok (.dup2, 1) := by decide +kernel
theorem dX2_addToLastRow_64 : decode cX2_addToLastRow 64 = .ok (.laload, 1) := by decide +kernel
theorem dX2_addToLastRow_65 : decode cX2_addToLastRow 65 = .ok (.lconst 1, 1) := by decide +kernel
theorem dX2_addToLastRow_66 : decode cX2_addToLastRow 66 = .ok (.iload_n 3, 1) := by decide +kernel
theorem dX2_addToLastRow_67 : decode cX2_addToLastRow 67 = .ok (.lshl, 1) := by decide +kernel
theorem dX2_addToLastRow_68 : decode cX2_addToLastRow 68 = .ok (.lor, 1) := by decide +kernel
theorem dX2_addToLastRow_69 : decode cX2_addToLastRow 69 = .ok (.lastore, 1) := by decide +kernel
theorem dX2_addToLastRow_70 : decode cX2_addToLastRow 70 = .ok (.return_, 1) := by decide +kernel
theorem dX2_markClashes_0 : decode cX2_markClashes 0 = .ok (.iconst 0, 1) := by decide +kernel
theorem dX2_markClashes_1 : decode cX2_markClashes 1 = .ok (.istore 4, 2) := by decide +kernel
theorem dX2_markClashes_3 : decode cX2_markClashes 3 = .ok (.iload 4, 2) := by decide +kernel
theorem dX2_markClashes_5 : decode cX2_markClashes 5 = .ok (.iload_n 1, 1) := by decide +kernel
theorem dX2_markClashes_6 : decode cX2_markClashes 6 = .ok (.if_icmp .ge 83, 3) := by decide +kernel
theorem dX2_markClashes_9 : decode cX2_markClashes 9 = .ok (.aload_n 0, 1) := by decide +kernel
theorem dX2_markClashes_10 : decode cX2_markClashes 10 = .ok (.getfield 19, 3) := by decide +kernel
theorem dX2_markClashes_13 : decode cX2_markClashes 13 = .ok (.iload_n 2, 1) := by decide +kernel
theorem dX2_markClashes_14 : decode cX2_markClashes 14 = .ok (.laload, 1) := by decide +kernel
theorem dX2_markClashes_15 : decode cX2_markClashes 15 = .ok (.iload 4, 2) := by decide +kernel
theorem dX2_markClashes_17 : decode cX2_markClashes 17 = .ok (.lshr, 1) := by decide +kernel
theorem dX2_markClashes_18 : decode cX2_markClashes 18 = .ok (.lconst 1, 1) := by decide +kernel
theorem dX2_markClashes_19 : decode cX2_markClashes 19 = .ok (.land, 1) := by decide +kernel
theorem dX2_markClashes_20 : decode cX2_markClashes 20 = .ok (.lconst 0, 1) := by decide +kernel
theorem dX2_markClashes_21 : decode cX2_markClashes 21 = .ok (.lcmp, 1) := by decide +kernel
theorem dX2_markClashes_22 : decode cX2_markClashes 22 = .ok (.ifCond .eq 7, 3) := by decide +kernel
theorem dX2_markClashes_25 : decode cX2_markClashes 25 = .ok (.iconst 1, 1) := by decide +kernel
theorem dX2_markClashes_26 : decode cX2_markClashes 26 = .ok (.goto 4, 3) := by decide +kernel
theorem dX2_markClashes_29 : decode cX2_markClashes 29 = .ok (.iconst 0, 1) := by decide +kernel
theorem dX2_markClashes_30 : decode cX2_markClashes 30 = .ok (.istore 5, 2) := by decide +kernel
theorem dX2_markClashes_32 : decode cX2_markClashes 32 = .ok (.iload 5, 2) := by decide +kernel
theorem dX2_markClashes_34 : decode cX2_markClashes 34 = .ok (.ifCond .eq 49, 3) := by decide +kernel
theorem dX2_markClashes_37 : decode cX2_markClashes 37 = .ok (.iload_n 3, 1) := by decide +kernel
theorem dX2_markClashes_38 : decode cX2_markClashes 38 = .ok (.ifCond .eq 19, 3) := by decide +kernel
theorem dX2_markClashes_41 : decode cX2_markClashes 41 = .ok (.iload_n 3, 1) := by decide +kernel
theorem dX2_markClashes_42 : decode cX2_markClashes 42 = .ok (.aload_n 0, 1) := by decide +kernel
theorem dX2_markClashes_43 : decode cX2_markClashes 43 = .ok (.getfield 15, 3) := by decide +kernel
theorem dX2_markClashes_46 : decode cX2_markClashes 46 = .ok (.iload 4, 2) := by decide +kernel
theorem dX2_markClashes_48 : decode cX2_markClashes 48 = .ok (.bipush 24, 2) := by decide +kernel
theorem dX2_markClashes_50 : decode cX2_markClashes 50 = .ok (.imul, 1) := by decide +kernel
theorem dX2_markClashes_51 : decode cX2_markClashes 51 = .ok (.iload_n 2, 1) := by decide +kernel
theorem dX2_markClashes_52 : decode cX2_markClashes 52 = .ok (.iadd, 1) := by decide +kernel
theorem dX2_markClashes_53 : decode cX2_markClashes 53 = .ok (.baload, 1) := by decide +kernel
theorem dX2_markClashes_54 : decode cX2_markClashes 54 = .ok (.if_icmp .eq 29, 3) := by decide +kernel
theorem dX2_markClashes_57 : decode cX2_markClashes 57 = .ok (.aload_n 0, 1) := by decide +kernel
theorem dX2_markClashes_58 : decode cX2_markClashes 58 = .ok (.getfield 23, 3) := by decide +kernel
theorem dX2_markClashes_61 : decode cX2_markClashes 61 = .ok (.iload_n 1, 1) := by decide +kernel
theorem dX2_markClashes_62 : decode cX2_markClashes 62 = .ok (.dup2, 1) := by decide +kernel
theorem dX2_markClashes_63 : decode cX2_markClashes 63 = .ok (.laload, 1) := by decide +kernel
theorem dX2_markClashes_64 : decode cX2_markClashes 64 = .ok (.lconst 1, 1) := by decide +kernel
theorem dX2_markClashes_65 : decode cX2_markClashes 65 = .ok (.iload 4, 2) := by decide +kernel
theorem dX2_markClashes_67 : decode cX2_markClashes 67 = .ok (.lshl, 1) := by decide +kernel
theorem dX2_markClashes_68 : decode cX2_markClashes 68 = .ok (.lor, 1) := by decide +kernel
theorem dX2_markClashes_69 : decode cX2_markClashes 69 = .ok (.lastore, 1) := by decide +kernel
theorem dX2_markClashes_70 : decode cX2_markClashes 70 = .ok (.aload_n 0, 1) := by decide +kernel
theorem dX2_markClashes_71 : decode cX2_markClashes 71 = .ok (.getfield 23, 3) := by decide +kernel
theorem dX2_markClashes_74 : decode cX2_markClashes 74 = .ok (.iload 4, 2) := by decide +kernel
theorem dX2_markClashes_76 : decode cX2_markClashes 76 = .ok (.dup2, 1) := by decide +kernel
theorem dX2_markClashes_77 : decode cX2_markClashes 77 = .ok (.laload, 1) := by decide +kernel
theorem dX2_markClashes_78 : decode cX2_markClashes 78 = .ok (.lconst 1, 1) := by decide +kernel
theorem dX2_markClashes_79 : decode cX2_markClashes 79 = .ok (.iload_n 1, 1) := by decide +kernel
theorem dX2_markClashes_80 : decode cX2_markClashes 80 = .ok (.lshl, 1) := by decide +kernel
theorem dX2_markClashes_81 : decode cX2_markClashes 81 = .ok (.lor, 1) := by decide +kernel
theorem dX2_markClashes_82 : decode cX2_markClashes 82 = .ok (.lastore, 1) := by decide +kernel
theorem dX2_markClashes_83 : decode cX2_markClashes 83 = .ok (.iinc 4 1, 3) := by decide +kernel
theorem dX2_markClashes_86 : decode cX2_markClashes 86 = .ok (.goto (-83), 3) := by decide +kernel
theorem dX2_markClashes_89 : decode cX2_markClashes 89 = .ok (.return_, 1) := by decide +kernel
theorem dX2_neededColumns_0 : decode cX2_neededColumns 0 = .ok (.iconst 1, 1) := by decide +kernel
theorem dX2_neededColumns_1 : decode cX2_neededColumns 1 = .ok (.aload_n 0, 1) := by decide +kernel
theorem dX2_neededColumns_2 : decode cX2_neededColumns 2 = .ok (.getfield 30, 3) := by decide +kernel
theorem dX2_neededColumns_5 : decode cX2_neededColumns 5 = .ok (.ishl, 1) := by decide +kernel
theorem dX2_neededColumns_6 : decode cX2_neededColumns 6 = .ok (.iconst 1, 1) := by decide +kernel
theorem dX2_neededColumns_7 : decode cX2_neededColumns 7 = .ok (.isub, 1) := by decide +kernel
theorem dX2_neededColumns_8 : decode cX2_neededColumns 8 = .ok (.ireturn, 1) := by decide +kernel
set_option maxRecDepth 20000 in
theorem ggX2_uncovered_J13_bitCount_95d88 : GoodIn wsX2_uncovered wsJ13_bitCount_95d88 := goodIn_r _ [7, 8, 9, 10] (by decide +kernel) (by decide +kernel)
set_option maxRecDepth 20000 in
theorem gX2_uncovered_J13_bitCount_95d88 : GoodIn wsX2_uncovered (va_wsS RX2 61 yJ13_bitCount_95d88 wsJ13_bitCount_95d88) := goodIn_app (goodIn_r _ [4, 5, 6] (by decide +kernel) (by decide +kernel)) ggX2_uncovered_J13_bitCount_95d88
theorem dX2_uncovered_0 : decode cX2_uncovered 0 = .ok (.iconst 0, 1) := by decide +kernel
theorem dX2_uncovered_1 : decode cX2_uncovered 1 = .ok (.istore 4, 2) := by decide +kernel
theorem dX2_uncovered_3 : decode cX2_uncovered 3 = .ok (.iconst 0, 1) := by decide +kernel
theorem dX2_uncovered_4 : decode cX2_uncovered 4 = .ok (.istore 5, 2) := by decide +kernel
theorem dX2_uncovered_6 : decode cX2_uncovered 6 = .ok (.iload 5, 2) := by decide +kernel
theorem dX2_uncovered_8 : decode cX2_uncovered 8 = .ok (.aload_n 0, 1) := by decide +kernel
theorem dX2_uncovered_9 : decode cX2_uncovered 9 = .ok (.getfield 30, 3) := by decide +kernel
theorem dX2_uncovered_12 : decode cX2_uncovered 12 = .ok (.if_icmp .ge 49, 3) := by decide +kernel
theorem dX2_uncovered_15 : decode cX2_uncovered 15 = .ok (.iload_n 1, 1) := by decide +kernel
theorem dX2_uncovered_16 : decode cX2_uncovered 16 = .ok (.iload 5, 2) := by decide +kernel
theorem dX2_uncovered_18 : decode cX2_uncovered 18 = .ok (.ishr, 1) := by decide +kernel
theorem dX2_uncovered_19 : decode cX2_uncovered 19 = .ok (.iconst 1, 1) := by decide +kernel
theorem dX2_uncovered_20 : decode cX2_uncovered 20 = .ok (.iand, 1) := by decide +kernel
theorem dX2_uncovered_21 : decode cX2_uncovered 21 = .ok (.ifCond .eq 34, 3) := by decide +kernel
theorem dX2_uncovered_24 : decode cX2_uncovered 24 = .ok (.aload_n 0, 1) := by decide +kernel
theorem dX2_uncovered_25 : decode cX2_uncovered 25 = .ok (.getfield 19, 3) := by decide +kernel
theorem dX2_uncovered_28 : decode cX2_uncovered 28 = .ok (.iload 5, 2) := by decide +kernel
theorem dX2_uncovered_30 : decode cX2_uncovered 30 = .ok (.laload, 1) := by decide +kernel
theorem dX2_uncovered_31 : decode cX2_uncovered 31 = .ok (.lload_n 2, 1) := by decide +kernel
theorem dX2_uncovered_32 : decode cX2_uncovered 32 = .ok (.land, 1) := by decide +kernel
theorem dX2_uncovered_33 : decode cX2_uncovered 33 = .ok (.invokestatic 61, 3) := by decide +kernel
theorem dX2_uncovered_36 : decode cX2_uncovered 36 = .ok (.aload_n 0, 1) := by decide +kernel
theorem dX2_uncovered_37 : decode cX2_uncovered 37 = .ok (.getfield 33, 3) := by decide +kernel
theorem dX2_uncovered_40 : decode cX2_uncovered 40 = .ok (.iload 5, 2) := by decide +kernel
theorem dX2_uncovered_42 : decode cX2_uncovered 42 = .ok (.iaload, 1) := by decide +kernel
theorem dX2_uncovered_43 : decode cX2_uncovered 43 = .ok (.if_icmp .ge 12, 3) := by decide +kernel
theorem dX2_uncovered_46 : decode cX2_uncovered 46 = .ok (.iload 4, 2) := by decide +kernel
theorem dX2_uncovered_48 : decode cX2_uncovered 48 = .ok (.iconst 1, 1) := by decide +kernel
theorem dX2_uncovered_49 : decode cX2_uncovered 49 = .ok (.iload 5, 2) := by decide +kernel
theorem dX2_uncovered_51 : decode cX2_uncovered 51 = .ok (.ishl, 1) := by decide +kernel
theorem dX2_uncovered_52 : decode cX2_uncovered 52 = .ok (.ior, 1) := by decide +kernel
theorem dX2_uncovered_53 : decode cX2_uncovered 53 = .ok (.istore 4, 2) := by decide +kernel
theorem dX2_uncovered_55 : decode cX2_uncovered 55 = .ok (.iinc 5 1, 3) := by decide +kernel
theorem dX2_uncovered_58 : decode cX2_uncovered 58 = .ok (.goto (-52), 3) := by decide +kernel
theorem dX2_uncovered_61 : decode cX2_uncovered 61 = .ok (.iload 4, 2) := by decide +kernel
theorem dX2_uncovered_63 : decode cX2_uncovered 63 = .ok (.ireturn, 1) := by decide +kernel
theorem dX2_rowsWithAny_0 : decode cX2_rowsWithAny 0 = .ok (.lconst 0, 1) := by decide +kernel
theorem dX2_rowsWithAny_1 : decode cX2_rowsWithAny 1 = .ok (.lstore_n 2, 1) := by decide +kernel
theorem dX2_rowsWithAny_2 : decode cX2_rowsWithAny 2 = .ok (.iconst 0, 1) := by decide +kernel
theorem dX2_rowsWithAny_3 : decode cX2_rowsWithAny 3 = .ok (.istore 4, 2) := by decide +kernel
theorem dX2_rowsWithAny_5 : decode cX2_rowsWithAny 5 = .ok (.iload 4, 2) := by decide +kernel
theorem dX2_rowsWithAny_7 : decode cX2_rowsWithAny 7 = .ok (.aload_n 0, 1) := by decide +kernel
theorem dX2_rowsWithAny_8 : decode cX2_rowsWithAny 8 = .ok (.getfield 26, 3) := by decide +kernel
theorem dX2_rowsWithAny_11 : decode cX2_rowsWithAny 11 = .ok (.if_icmp .ge 28, 3) := by decide +kernel
theorem dX2_rowsWithAny_14 : decode cX2_rowsWithAny 14 = .ok (.iload_n 1, 1) := by decide +kernel
theorem dX2_rowsWithAny_15 : decode cX2_rowsWithAny 15 = .ok (.iload 4, 2) := by decide +kernel
theorem dX2_rowsWithAny_17 : decode cX2_rowsWithAny 17 = .ok (.ishr, 1) := by decide +kernel
theorem dX2_rowsWithAny_18 : decode cX2_rowsWithAny 18 = .ok (.iconst 1, 1) := by decide +kernel
theorem dX2_rowsWithAny_19 : decode cX2_rowsWithAny 19 = .ok (.iand, 1) := by decide +kernel
theorem dX2_rowsWithAny_20 : decode cX2_rowsWithAny 20 = .ok (.ifCond .eq 13, 3) := by decide +kernel
theorem dX2_rowsWithAny_23 : decode cX2_rowsWithAny 23 = .ok (.lload_n 2, 1) := by decide +kernel
theorem dX2_rowsWithAny_24 : decode cX2_rowsWithAny 24 = .ok (.aload_n 0, 1) := by decide +kernel
theorem dX2_rowsWithAny_25 : decode cX2_rowsWithAny 25 = .ok (.getfield 19, 3) := by decide +kernel
theorem dX2_rowsWithAny_28 : decode cX2_rowsWithAny 28 = .ok (.iload 4, 2) := by decide +kernel
theorem dX2_rowsWithAny_30 : decode cX2_rowsWithAny 30 = .ok (.laload, 1) := by decide +kernel
theorem dX2_rowsWithAny_31 : decode cX2_rowsWithAny 31 = .ok (.lor, 1) := by decide +kernel
theorem dX2_rowsWithAny_32 : decode cX2_rowsWithAny 32 = .ok (.lstore_n 2, 1) := by decide +kernel
theorem dX2_rowsWithAny_33 : decode cX2_rowsWithAny 33 = .ok (.iinc 4 1, 3) := by decide +kernel
theorem dX2_rowsWithAny_36 : decode cX2_rowsWithAny 36 = .ok (.goto (-31), 3) := by decide +kernel
theorem dX2_rowsWithAny_39 : decode cX2_rowsWithAny 39 = .ok (.lload_n 2, 1) := by decide +kernel
theorem dX2_rowsWithAny_40 : decode cX2_rowsWithAny 40 = .ok (.lreturn, 1) := by decide +kernel
set_option maxRecDepth 20000 in
theorem ggX2_fitting_X2_neededColumns : GoodIn wsX2_fitting wsX2_neededColumns := goodIn_r _ [8, 9, 28, 29, 30, 31, 32, 33, 34, 35] (by decide +kernel) (by decide +kernel)
set_option maxRecDepth 20000 in
theorem gX2_fitting_X2_neededColumns : GoodIn wsX2_fitting (wsV RX2 66 RX2 yX2_neededColumns wsX2_neededColumns) := goodIn_app (goodIn_r _ [4, 5, 6, 7] (by decide +kernel) (by decide +kernel)) ggX2_fitting_X2_neededColumns
set_option maxRecDepth 20000 in
theorem ggX2_fitting_X2_uncovered : GoodIn wsX2_fitting wsX2_uncovered := goodIn_r _ [13, 9, 14, 15, 16, 17, 18, 19, 20, 21, 22, 28, 29, 30, 31, 32, 33, 34, 35] (by decide +kernel) (by decide +kernel)
set_option maxRecDepth 20000 in
theorem gX2_fitting_X2_uncovered : GoodIn wsX2_fitting (wsV RX2 69 RX2 yX2_uncovered wsX2_uncovered) := goodIn_app (goodIn_r _ [10, 11, 12, 7] (by decide +kernel) (by decide +kernel)) ggX2_fitting_X2_uncovered
set_option maxRecDepth 20000 in
theorem ggX2_fitting_X2_rowsWithAny : GoodIn wsX2_fitting wsX2_rowsWithAny := goodIn_r _ [26, 27, 14, 28, 29, 30, 31, 32, 33, 34, 35] (by decide +kernel) (by decide +kernel)
set_option maxRecDepth 20000 in
theorem gX2_fitting_X2_rowsWithAny : GoodIn wsX2_fitting (wsV RX2 73 RX2 yX2_rowsWithAny wsX2_rowsWithAny) := goodIn_app (goodIn_r _ [23, 24, 25, 7] (by decide +kernel) (by decide +kernel)) ggX2_fitting_X2_rowsWithAny
theorem dX2_fitting_0 : decode cX2_fitting 0 = .ok (.aload_n 0, 1) := by decide +kernel
theorem dX2_fitting_1 : decode cX2_fitting 1 = .ok (.invokevirtual 66, 3) := by decide +kernel
theorem dX2_fitting_4 : decode cX2_fitting 4 = .ok (.istore_n 3, 1) := by decide +kernel
theorem dX2_fitting_5 : decode cX2_fitting 5 = .ok (.iload_n 3, 1) := by decide +kernel
theorem dX2_fitting_6 : decode cX2_fitting 6 = .ok (.aload_n 0, 1) := by decide +kernel
theorem dX2_fitting_7 : decode cX2_fitting 7 = .ok (.iload_n 3, 1) := by decide +kernel
theorem dX2_fitting_8 : decode cX2_fitting 8 = .ok (.lload_n 1, 1) := by decide +kernel
theorem dX2_fitting_9 : decode cX2_fitting 9 = .ok (.invokevirtual 69, 3) := by decide +kernel
theorem dX2_fitting_12 : decode cX2_fitting 12 = .ok (.iconst (-1), 1) := by decide +kernel
theorem dX2_fitting_13 : decode cX2_fitting 13 = .ok (.ixor, 1) := by decide +kernel
theorem dX2_fitting_14 : decode cX2_fitting 14 = .ok (.iand, 1) := by decide +kernel
theorem dX2_fitting_15 : decode cX2_fitting 15 = .ok (.istore 4, 2) := by decide +kernel
theorem dX2_fitting_17 : decode cX2_fitting 17 = .ok (.aload_n 0, 1) := by decide +kernel
theorem dX2_fitting_18 : decode cX2_fitting 18 = .ok (.iload_n 3, 1) := by decide +kernel
theorem dX2_fitting_19 : decode cX2_fitting 19 = .ok (.invokevirtual 73, 3) := by decide +kernel
theorem dX2_fitting_22 : decode cX2_fitting 22 = .ok (.lload_n 1, 1) := by decide +kernel
theorem dX2_fitting_23 : decode cX2_fitting 23 = .ok (.ldc2_w 77, 3) := by decide +kernel
theorem dX2_fitting_26 : decode cX2_fitting 26 = .ok (.lxor, 1) := by decide +kernel
theorem dX2_fitting_27 : decode cX2_fitting 27 = .ok (.land, 1) := by decide +kernel
theorem dX2_fitting_28 : decode cX2_fitting 28 = .ok (.aload_n 0, 1) := by decide +kernel
theorem dX2_fitting_29 : decode cX2_fitting 29 = .ok (.iload 4, 2) := by decide +kernel
theorem dX2_fitting_31 : decode cX2_fitting 31 = .ok (.invokevirtual 73, 3) := by decide +kernel
theorem dX2_fitting_34 : decode cX2_fitting 34 = .ok (.ldc2_w 77, 3) := by decide +kernel
theorem dX2_fitting_37 : decode cX2_fitting 37 = .ok (.lxor, 1) := by decide +kernel
theorem dX2_fitting_38 : decode cX2_fitting 38 = .ok (.land, 1) := by decide +kernel
theorem dX2_fitting_39 : decode cX2_fitting 39 = .ok (.lstore 5, 2) := by decide +kernel
theorem dX2_fitting_41 : decode cX2_fitting 41 = .ok (.iconst 0, 1) := by decide +kernel
theorem dX2_fitting_42 : decode cX2_fitting 42 = .ok (.istore 7, 2) := by decide +kernel
theorem dX2_fitting_44 : decode cX2_fitting 44 = .ok (.iload 7, 2) := by decide +kernel
theorem dX2_fitting_46 : decode cX2_fitting 46 = .ok (.aload_n 0, 1) := by decide +kernel
theorem dX2_fitting_47 : decode cX2_fitting 47 = .ok (.getfield 36, 3) := by decide +kernel
theorem dX2_fitting_50 : decode cX2_fitting 50 = .ok (.if_icmp .ge 36, 3) := by decide +kernel
theorem dX2_fitting_53 : decode cX2_fitting 53 = .ok (.aload_n 0, 1) := by decide +kernel
theorem dX2_fitting_54 : decode cX2_fitting 54 = .ok (.getfield 23, 3) := by decide +kernel
theorem dX2_fitting_57 : decode cX2_fitting 57 = .ok (.iload 7, 2) := by decide +kernel
theorem dX2_fitting_59 : decode cX2_fitting 59 = .ok (.laload, 1) := by decide +kernel
theorem dX2_fitting_60 : decode cX2_fitting 60 = .ok (.lload_n 1, 1) := by decide +kernel
theorem dX2_fitting_61 : decode cX2_fitting 61 = .ok (.land, 1) := by decide +kernel
theorem dX2_fitting_62 : decode cX2_fitting 62 = .ok (.lconst 0, 1) := by decide +kernel
theorem dX2_fitting_63 : decode cX2_fitting 63 = .ok (.lcmp, 1) := by decide +kernel
theorem dX2_fitting_64 : decode cX2_fitting 64 = .ok (.ifCond .eq 16, 3) := by decide +kernel
theorem dX2_fitting_67 : decode cX2_fitting 67 = .ok (.lload 5, 2) := by decide +kernel
theorem dX2_fitting_69 : decode cX2_fitting 69 = .ok (.lconst 1, 1) := by decide +kernel
theorem dX2_fitting_70 : decode cX2_fitting 70 = .ok (.iload 7, 2) := by decide +kernel
theorem dX2_fitting_72 : decode cX2_fitting 72 = .ok (.lshl, 1) := by decide +kernel
theorem dX2_fitting_73 : decode cX2_fitting 73 = .ok (.ldc2_w 77, 3) := by decide +kernel
theorem dX2_fitting_76 : decode cX2_fitting 76 = .ok (.lxor, 1) := by decide +kernel
theorem dX2_fitting_77 : decode cX2_fitting 77 = .ok (.land, 1) := by decide +kernel
theorem dX2_fitting_78 : decode cX2_fitting 78 = .ok (.lstore 5, 2) := by decide +kernel
theorem dX2_fitting_80 : decode cX2_fitting 80 = .ok (.iinc 7 1, 3) := by decide +kernel
theorem dX2_fitting_83 : decode cX2_fitting 83 = .ok (.goto (-39), 3) := by decide +kernel
theorem dX2_fitting_86 : decode cX2_fitting 86 = .ok (.lload 5, 2) := by decide +kernel
theorem dX2_fitting_88 : decode cX2_fitting 88 = .ok (.lreturn, 1) := by decide +kernel
set_option maxRecDepth 20000 in
theorem ggX2_columnOfFewest_J13_bitCount_95d88 : GoodIn wsX2_columnOfFewest wsJ13_bitCount_95d88 := goodIn_r _ [6, 7, 8, 9] (by decide +kernel) (by decide +kernel)
set_option maxRecDepth 20000 in
theorem gX2_columnOfFewest_J13_bitCount_95d88 : GoodIn wsX2_columnOfFewest (va_wsS RX2 61 yJ13_bitCount_95d88 wsJ13_bitCount_95d88) := goodIn_app (goodIn_r _ [3, 4, 5] (by decide +kernel) (by decide +kernel)) ggX2_columnOfFewest_J13_bitCount_95d88
theorem dX2_columnOfFewest_0 : decode cX2_columnOfFewest 0 = .ok (.iconst (-1), 1) := by decide +kernel
theorem dX2_columnOfFewest_1 : decode cX2_columnOfFewest 1 = .ok (.istore 4, 2) := by decide +kernel
theorem dX2_columnOfFewest_3 : decode cX2_columnOfFewest 3 = .ok (.bipush 61, 2) := by decide +kernel
theorem dX2_columnOfFewest_5 : decode cX2_columnOfFewest 5 = .ok (.istore 5, 2) := by decide +kernel
theorem dX2_columnOfFewest_7 : decode cX2_columnOfFewest 7 = .ok (.iconst 0, 1) := by decide +kernel
theorem dX2_columnOfFewest_8 : decode cX2_columnOfFewest 8 = .ok (.istore 6, 2) := by decide +kernel
theorem dX2_columnOfFewest_10 : decode cX2_columnOfFewest 10 = .ok (.iload 6, 2) := by decide +kernel
theorem dX2_columnOfFewest_12 : decode cX2_columnOfFewest 12 = .ok (.aload_n 0, 1) := by decide +kernel
theorem dX2_columnOfFewest_13 : decode cX2_columnOfFewest 13 = .ok (.getfield 30, 3) := by decide +kernel
theorem dX2_columnOfFewest_16 : decode cX2_columnOfFewest 16 = .ok (.if_icmp .ge 47, 3) := by decide +kernel
theorem dX2_columnOfFewest_19 : decode cX2_columnOfFewest 19 = .ok (.iload_n 1, 1) := by decide +kernel
theorem dX2_columnOfFewest_20 : decode cX2_columnOfFewest 20 = .ok (.iload 6, 2) := by decide +kernel
theorem dX2_columnOfFewest_22 : decode cX2_columnOfFewest 22 = .ok (.ishr, 1) := by decide +kernel
theorem dX2_columnOfFewest_23 : decode cX2_columnOfFewest 23 = .ok (.iconst 1, 1) := by decide +kernel
theorem dX2_columnOfFewest_24 : decode cX2_columnOfFewest 24 = .ok (.iand, 1) := by decide +kernel
theorem dX2_columnOfFewest_25 : decode cX2_columnOfFewest 25 = .ok (.ifCond .eq 32, 3) := by decide +kernel
theorem dX2_columnOfFewest_28 : decode cX2_columnOfFewest 28 = .ok (.aload_n 0, 1) := by decide +kernel
theorem dX2_columnOfFewest_29 : decode cX2_columnOfFewest 29 = .ok (.getfield 19, 3) := by decide +kernel
theorem dX2_columnOfFewest_32 : decode cX2_columnOfFewest 32 = .ok (.iload 6, 2) := by decide +kernel
theorem dX2_columnOfFewest_34 : decode cX2_columnOfFewest 34 = .ok (.laload, 1) := by decide +kernel
theorem dX2_columnOfFewest_35 : decode cX2_columnOfFewest 35 = .ok (.lload_n 2, 1) := by decide +kernel
theorem dX2_columnOfFewest_36 : decode cX2_columnOfFewest 36 = .ok (.land, 1) := by decide +kernel
theorem dX2_columnOfFewest_37 : decode cX2_columnOfFewest 37 = .ok (.invokestatic 61, 3) := by decide +kernel
theorem dX2_columnOfFewest_40 : decode cX2_columnOfFewest 40 = .ok (.istore 7, 2) := by decide +kernel
theorem dX2_columnOfFewest_42 : decode cX2_columnOfFewest 42 = .ok (.iload 7, 2) := by decide +kernel
theorem dX2_columnOfFewest_44 : decode cX2_columnOfFewest 44 = .ok (.iload 5, 2) := by decide +kernel
theorem dX2_columnOfFewest_46 : decode cX2_columnOfFewest 46 = .ok (.if_icmp .ge 11, 3) := by decide +kernel
theorem dX2_columnOfFewest_49 : decode cX2_columnOfFewest 49 = .ok (.iload 6, 2) := by decide +kernel
theorem dX2_columnOfFewest_51 : decode cX2_columnOfFewest 51 = .ok (.istore 4, 2) := by decide +kernel
theorem dX2_columnOfFewest_53 : decode cX2_columnOfFewest 53 = .ok (.iload 7, 2) := by decide +kernel
theorem dX2_columnOfFewest_55 : decode cX2_columnOfFewest 55 = .ok (.istore 5, 2) := by decide +kernel
theorem dX2_columnOfFewest_57 : decode cX2_columnOfFewest 57 = .ok (.iinc 6 1, 3) := by decide +kernel
theorem dX2_columnOfFewest_60 : decode cX2_columnOfFewest 60 = .ok (.goto (-50), 3) := by decide +kernel
theorem dX2_columnOfFewest_63 : decode cX2_columnOfFewest 63 = .ok (.iload 4, 2) := by decide +kernel
theorem dX2_columnOfFewest_65 : decode cX2_columnOfFewest 65 = .ok (.ireturn, 1) := by decide +kernel
set_option maxRecDepth 20000 in
theorem ggX2_hasAlikeRows_X2_haveSameColours : GoodIn wsX2_hasAlikeRows wsX2_haveSameColours := goodIn_r _ [7, 8, 9, 10, 11, 12, 13, 14, 15, 16, 17] (by decide +kernel) (by decide +kernel)
set_option maxRecDepth 20000 in
theorem gX2_hasAlikeRows_X2_haveSameColours : GoodIn wsX2_hasAlikeRows (wsV RX2 79 RX2 yX2_haveSameColours wsX2_haveSameColours) := goodIn_app (goodIn_r _ [3, 4, 5, 6] (by decide +kernel) (by decide +kernel)) ggX2_hasAlikeRows_X2_haveSameColours
theorem dX2_hasAlikeRows_0 : decode cX2_hasAlikeRows 0 = .ok (.iconst 0, 1) := by decide +kernel
theorem dX2_hasAlikeRows_1 : decode cX2_hasAlikeRows 1 = .ok (.istore_n 1, 1) := by decide +kernel
theorem dX2_hasAlikeRows_2 : decode cX2_hasAlikeRows 2 = .ok (.iload_n 1, 1) := by decide +kernel
theorem dX2_hasAlikeRows_3 : decode cX2_hasAlikeRows 3 = .ok (.aload_n 0, 1) := by decide +kernel
theorem dX2_hasAlikeRows_4 : decode cX2_hasAlikeRows 4 = .ok (.getfield 36, 3) := by decide +kernel
theorem dX2_hasAlikeRows_7 : decode cX2_hasAlikeRows 7 = .ok (.if_icmp .ge 48, 3) := by decide +kernel
theorem dX2_hasAlikeRows_10 : decode cX2_hasAlikeRows 10 = .ok (.iconst 0, 1) := by decide +kernel
theorem dX2_hasAlikeRows_11 : decode cX2_hasAlikeRows 11 = .ok (.istore_n 2, 1) := by decide +kernel
theorem dX2_hasAlikeRows_12 : decode cX2_hasAlikeRows 12 = .ok (.iload_n 2, 1) := by decide +kernel
theorem dX2_hasAlikeRows_13 : decode cX2_hasAlikeRows 13 = .ok (.iload_n 1, 1) := by decide +kernel
theorem dX2_hasAlikeRows_14 : decode cX2_hasAlikeRows 14 = .ok (.if_icmp .ge 35, 3) := by decide +kernel
theorem dX2_hasAlikeRows_17 : decode cX2_hasAlikeRows 17 = .ok (.aload_n 0, 1) := by decide +kernel
theorem dX2_hasAlikeRows_18 : decode cX2_hasAlikeRows 18 = .ok (.getfield 9, 3) := by decide +kernel
theorem dX2_hasAlikeRows_21 : decode cX2_hasAlikeRows 21 = .ok (.iload_n 1, 1) := by decide +kernel
theorem dX2_hasAlikeRows_22 : decode cX2_hasAlikeRows 22 = .ok (.iaload, 1) := by decide +kernel
theorem dX2_hasAlikeRows_23 : decode cX2_hasAlikeRows 23 = .ok (.aload_n 0, 1) := by decide +kernel
theorem dX2_hasAlikeRows_24 : decode cX2_hasAlikeRows 24 = .ok (.getfield 9, 3) := by decide +kernel
theorem dX2_hasAlikeRows_27 : decode cX2_hasAlikeRows 27 = .ok (.iload_n 2, 1) := by decide +kernel
theorem dX2_hasAlikeRows_28 : decode cX2_hasAlikeRows 28 = .ok (.iaload, 1) := by decide +kernel
theorem dX2_hasAlikeRows_29 : decode cX2_hasAlikeRows 29 = .ok (.if_icmp .ne 14, 3) := by decide +kernel
theorem dX2_hasAlikeRows_32 : decode cX2_hasAlikeRows 32 = .ok (.aload_n 0, 1) := by decide +kernel
theorem dX2_hasAlikeRows_33 : decode cX2_hasAlikeRows 33 = .ok (.iload_n 1, 1) := by decide +kernel
theorem dX2_hasAlikeRows_34 : decode cX2_hasAlikeRows 34 = .ok (.iload_n 2, 1) := by decide +kernel
theorem dX2_hasAlikeRows_35 : decode cX2_hasAlikeRows 35 = .ok (.invokevirtual 79, 3) := by decide +kernel
theorem dX2_hasAlikeRows_38 : decode cX2_hasAlikeRows 38 = .ok (.ifCond .eq 5, 3) := by decide +kernel
theorem dX2_hasAlikeRows_41 : decode cX2_hasAlikeRows 41 = .ok (.iconst 1, 1) := by decide +kernel
theorem dX2_hasAlikeRows_42 : decode cX2_hasAlikeRows 42 = .ok (.ireturn, 1) := by decide +kernel
theorem dX2_hasAlikeRows_43 : decode cX2_hasAlikeRows 43 = .ok (.iinc 2 1, 3) := by decide +kernel
theorem dX2_hasAlikeRows_46 : decode cX2_hasAlikeRows 46 = .ok (.goto (-34), 3) := by decide +kernel
theorem dX2_hasAlikeRows_49 : decode cX2_hasAlikeRows 49 = .ok (.iinc 1 1, 3) := by decide +kernel
theorem dX2_hasAlikeRows_52 : decode cX2_hasAlikeRows 52 = .ok (.goto (-50), 3) := by decide +kernel
theorem dX2_hasAlikeRows_55 : decode cX2_hasAlikeRows 55 = .ok (.iconst 0, 1) := by decide +kernel
theorem dX2_hasAlikeRows_56 : decode cX2_hasAlikeRows 56 = .ok (.ireturn, 1) := by decide +kernel
theorem dX2_haveSameColours_0 : decode cX2_haveSameColours 0 = .ok (.iconst 0, 1) := by decide +kernel
theorem dX2_haveSameColours_1 : decode cX2_haveSameColours 1 = .ok (.istore_n 3, 1) := by decide +kernel
theorem dX2_haveSameColours_2 : decode cX2_haveSameColours 2 = .ok (.iload_n 3, 1) := by decide +kernel
theorem dX2_haveSameColours_3 : decode cX2_haveSameColours 3 = .ok (.aload_n 0, 1) := by decide +kernel
theorem dX2_haveSameColours_4 : decode cX2_haveSameColours 4 = .ok (.getfield 26, 3) := by decide +kernel
theorem dX2_haveSameColours_7 : decode cX2_haveSameColours 7 = .ok (.if_icmp .ge 36, 3) := by decide +kernel
theorem dX2_haveSameColours_10 : decode cX2_haveSameColours 10 = .ok (.aload_n 0, 1) := by decide +kernel
theorem dX2_haveSameColours_11 : decode cX2_haveSameColours 11 = .ok (.getfield 15, 3) := by decide +kernel
theorem dX2_haveSameColours_14 : decode cX2_haveSameColours 14 = .ok (.iload_n 1, 1) := by decide +kernel
theorem dX2_haveSameColours_15 : decode cX2_haveSameColours 15 = .ok (.bipush 24, 2) := by decide +kernel
theorem dX2_haveSameColours_17 : decode cX2_haveSameColours 17 = .ok (.imul, 1) := by decide +kernel
theorem dX2_haveSameColours_18 : decode cX2_haveSameColours 18 = .ok (.iload_n 3, 1) := by decide +kernel
theorem dX2_haveSameColours_19 : decode cX2_haveSameColours 19 = .ok (.iadd, 1) := by decide +kernel
theorem dX2_haveSameColours_20 : decode cX2_haveSameColours 20 = .ok (.baload, 1) := by decide +kernel
theorem dX2_haveSameColours_21 : decode cX2_haveSameColours 21 = .ok (.aload_n 0, 1) := by decide +kernel
theorem dX2_haveSameColours_22 : decode cX2_haveSameColours 22 = .ok (.getfield 15, 3) := by decide +kernel
theorem dX2_haveSameColours_25 : decode cX2_haveSameColours 25 = .ok (.iload_n 2, 1) := by decide +kernel
theorem dX2_haveSameColours_26 : decode cX2_haveSameColours 26 = .ok (.bipush 24, 2) := by decide +kernel
theorem dX2_haveSameColours_28 : decode cX2_haveSameColours 28 = .ok (.imul, 1) := by decide +kernel
theorem dX2_haveSameColours_29 : decode cX2_haveSameColours 29 = .ok (.iload_n 3, 1) := by decide +kernel
theorem dX2_haveSameColours_30 : decode cX2_haveSameColours 30 = .ok (.iadd, 1) := by decide +kernel
theorem dX2_haveSameColours_31 : decode cX2_haveSameColours 31 = .ok (.baload, 1) := by decide +kernel
theorem dX2_haveSameColours_32 : decode cX2_haveSameColours 32 = .ok (.if_icmp .eq 5, 3) := by decide +kernel
theorem dX2_haveSameColours_35 : decode cX2_haveSameColours 35 = .ok (.iconst 0, 1) := by decide +kernel
theorem dX2_haveSameColours_36 : decode cX2_haveSameColours 36 = .ok (.ireturn, 1) := by decide +kernel
theorem dX2_haveSameColours_37 : decode cX2_haveSameColours 37 = .ok (.iinc 3 1, 3) := by decide +kernel
theorem dX2_haveSameColours_40 : decode cX2_haveSameColours 40 = .ok (.goto (-38), 3) := by decide +kernel
theorem dX2_haveSameColours_43 : decode cX2_haveSameColours 43 = .ok (.iconst 1, 1) := by decide +kernel
theorem dX2_haveSameColours_44 : decode cX2_haveSameColours 44 = .ok (.ireturn, 1) := by decide +kernel
