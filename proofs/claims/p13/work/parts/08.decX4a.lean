set_option maxRecDepth 20000 in
theorem ggX4_init_X2_init : GoodIn wsX4_init wsX2_init := goodIn_r _ [32, 33, 2, 3, 4, 34, 35, 36, 37, 38, 39, 40, 41, 42, 74, 75, 76, 77, 78, 79, 80, 81] (by decide +kernel) (by decide +kernel)
set_option maxRecDepth 20000 in
theorem gX4_init_X2_init : GoodIn wsX4_init (wsX2_init) := ggX4_init_X2_init
set_option maxRecDepth 20000 in
theorem ggX4_init_X0_init : GoodIn wsX4_init wsX0_init := goodIn_r _ [44, 45, 2, 3, 4, 46, 82, 83, 84, 85, 86, 87, 88] (by decide +kernel) (by decide +kernel)
set_option maxRecDepth 20000 in
theorem gX4_init_X0_init_n33 : GoodIn wsX4_init (wsX0_init) := ggX4_init_X0_init
set_option maxRecDepth 20000 in
theorem ggX4_init_X3_init : GoodIn wsX4_init wsX3_init := goodIn_r _ [49, 50, 2, 3, 4, 51, 52, 53, 54, 89, 90, 91, 92, 93] (by decide +kernel) (by decide +kernel)
set_option maxRecDepth 20000 in
theorem gX4_init_X3_init : GoodIn wsX4_init (wsX3_init) := ggX4_init_X3_init
set_option maxRecDepth 20000 in
theorem ggX4_init_X1_init : GoodIn wsX4_init wsX1_init := goodIn_r _ [57, 58, 2, 3, 37, 59, 60, 61, 4, 62, 63, 64, 94, 95, 96, 97, 98, 99, 100, 101] (by decide +kernel) (by decide +kernel)
set_option maxRecDepth 20000 in
theorem gX4_init_X1_init : GoodIn wsX4_init (wsX1_init) := ggX4_init_X1_init
theorem dX4_init_0 : decode cX4_init 0 = .ok (.aload_n 0, 1) := by decide +kernel
theorem dX4_init_1 : decode cX4_init 1 = .ok (.invokespecial 1, 3) := by decide +kernel
theorem dX4_init_4 : decode cX4_init 4 = .ok (.aload_n 0, 1) := by decide +kernel
theorem dX4_init_5 : decode cX4_init 5 = .ok (.bipush 60, 2) := by decide +kernel
theorem dX4_init_7 : decode cX4_init 7 = .ok (.newarray .int, 2) := by decide +kernel
theorem dX4_init_9 : decode cX4_init 9 = .ok (.putfield 9, 3) := by decide +kernel
theorem dX4_init_12 : decode cX4_init 12 = .ok (.iconst 1, 1) := by decide +kernel
theorem dX4_init_13 : decode cX4_init 13 = .ok (.bipush 24, 2) := by decide +kernel
theorem dX4_init_15 : decode cX4_init 15 = .ok (.iload_n 1, 1) := by decide +kernel
theorem dX4_init_16 : decode cX4_init 16 = .ok (.invokestatic 13, 3) := by decide +kernel
theorem dX4_init_19 : decode cX4_init 19 = .ok (.invokestatic 19, 3) := by decide +kernel
theorem dX4_init_22 : decode cX4_init 22 = .ok (.istore_n 3, 1) := by decide +kernel
theorem dX4_init_23 : decode cX4_init 23 = .ok (.iconst 0, 1) := by decide +kernel
theorem dX4_init_24 : decode cX4_init 24 = .ok (.iload_n 3, 1) := by decide +kernel
theorem dX4_init_25 : decode cX4_init 25 = .ok (.iload_n 2, 1) := by decide +kernel
theorem dX4_init_26 : decode cX4_init 26 = .ok (.invokestatic 13, 3) := by decide +kernel
theorem dX4_init_29 : decode cX4_init 29 = .ok (.invokestatic 19, 3) := by decide +kernel
theorem dX4_init_32 : decode cX4_init 32 = .ok (.istore 4, 2) := by decide +kernel
theorem dX4_init_34 : decode cX4_init 34 = .ok (.aload_n 0, 1) := by decide +kernel
theorem dX4_init_35 : decode cX4_init 35 = .ok (.new 22, 3) := by decide +kernel
theorem dX4_init_38 : decode cX4_init 38 = .ok (.dup, 1) := by decide +kernel
theorem dX4_init_39 : decode cX4_init 39 = .ok (.iload_n 3, 1) := by decide +kernel
theorem dX4_init_40 : decode cX4_init 40 = .ok (.iload_n 3, 1) := by decide +kernel
theorem dX4_init_41 : decode cX4_init 41 = .ok (.iload 4, 2) := by decide +kernel
theorem dX4_init_43 : decode cX4_init 43 = .ok (.isub, 1) := by decide +kernel
theorem dX4_init_44 : decode cX4_init 44 = .ok (.invokespecial 24, 3) := by decide +kernel
theorem dX4_init_47 : decode cX4_init 47 = .ok (.putfield 27, 3) := by decide +kernel
theorem dX4_init_50 : decode cX4_init 50 = .ok (.aload_n 0, 1) := by decide +kernel
theorem dX4_init_51 : decode cX4_init 51 = .ok (.new 31, 3) := by decide +kernel
theorem dX4_init_54 : decode cX4_init 54 = .ok (.dup, 1) := by decide +kernel
theorem dX4_init_55 : decode cX4_init 55 = .ok (.invokespecial 33, 3) := by decide +kernel
theorem dX4_init_58 : decode cX4_init 58 = .ok (.putfield 34, 3) := by decide +kernel
theorem dX4_init_61 : decode cX4_init 61 = .ok (.aload_n 0, 1) := by decide +kernel
theorem dX4_init_62 : decode cX4_init 62 = .ok (.new 38, 3) := by decide +kernel
theorem dX4_init_65 : decode cX4_init 65 = .ok (.dup, 1) := by decide +kernel
theorem dX4_init_66 : decode cX4_init 66 = .ok (.aload_n 0, 1) := by decide +kernel
theorem dX4_init_67 : decode cX4_init 67 = .ok (.getfield 27, 3) := by decide +kernel
theorem dX4_init_70 : decode cX4_init 70 = .ok (.invokespecial 40, 3) := by decide +kernel
theorem dX4_init_73 : decode cX4_init 73 = .ok (.putfield 43, 3) := by decide +kernel
theorem dX4_init_76 : decode cX4_init 76 = .ok (.aload_n 0, 1) := by decide +kernel
theorem dX4_init_77 : decode cX4_init 77 = .ok (.new 47, 3) := by decide +kernel
theorem dX4_init_80 : decode cX4_init 80 = .ok (.dup, 1) := by decide +kernel
theorem dX4_init_81 : decode cX4_init 81 = .ok (.aload_n 0, 1) := by decide +kernel
theorem dX4_init_82 : decode cX4_init 82 = .ok (.getfield 27, 3) := by decide +kernel
theorem dX4_init_85 : decode cX4_init 85 = .ok (.invokespecial 49, 3) := by decide +kernel
theorem dX4_init_88 : decode cX4_init 88 = .ok (.putfield 50, 3) := by decide +kernel
theorem dX4_init_91 : decode cX4_init 91 = .ok (.aload_n 0, 1) := by decide +kernel
theorem dX4_init_92 : decode cX4_init 92 = .ok (.new 47, 3) := by decide +kernel
theorem dX4_init_95 : decode cX4_init 95 = .ok (.dup, 1) := by decide +kernel
theorem dX4_init_96 : decode cX4_init 96 = .ok (.aload_n 0, 1) := by decide +kernel
theorem dX4_init_97 : decode cX4_init 97 = .ok (.getfield 27, 3) := by decide +kernel
theorem dX4_init_100 : decode cX4_init 100 = .ok (.invokespecial 49, 3) := by decide +kernel
theorem dX4_init_103 : decode cX4_init 103 = .ok (.putfield 54, 3) := by decide +kernel
theorem dX4_init_106 : decode cX4_init 106 = .ok (.return_, 1) := by decide +kernel
set_option maxRecDepth 20000 in
theorem ggX4_times_X4_requireColumn : GoodIn wsX4_times wsX4_requireColumn := goodIn_r _ [9, 1, 10, 11, 12, 13, 20, 21, 22, 23, 24, 25, 26, 27, 28, 29, 30, 31, 32, 33, 34, 35, 36, 37, 38, 39, 40, 41, 42] (by decide +kernel) (by decide +kernel)
set_option maxRecDepth 20000 in
theorem gX4_times_X4_requireColumn : GoodIn wsX4_times (wsV RX4 57 RX4 yX4_requireColumn wsX4_requireColumn) := goodIn_app (goodIn_r _ [5, 6, 7, 8] (by decide +kernel) (by decide +kernel)) ggX4_times_X4_requireColumn
set_option maxRecDepth 20000 in
theorem ggX4_times_X2_isNeeded : GoodIn wsX4_times wsX2_isNeeded := goodIn_r _ [18, 19, 29, 30, 31, 32, 33, 34, 35, 36] (by decide +kernel) (by decide +kernel)
set_option maxRecDepth 20000 in
theorem gX4_times_X2_isNeeded : GoodIn wsX4_times (wsV RX4 61 RX2 yX2_isNeeded wsX2_isNeeded) := goodIn_app (goodIn_r _ [14, 15, 16, 17] (by decide +kernel) (by decide +kernel)) ggX4_times_X2_isNeeded
theorem dX4_times_0 : decode cX4_times 0 = .ok (.aload_n 0, 1) := by decide +kernel
theorem dX4_times_1 : decode cX4_times 1 = .ok (.iload_n 1, 1) := by decide +kernel
theorem dX4_times_2 : decode cX4_times 2 = .ok (.invokevirtual 57, 3) := by decide +kernel
theorem dX4_times_5 : decode cX4_times 5 = .ok (.iload_n 2, 1) := by decide +kernel
theorem dX4_times_6 : decode cX4_times 6 = .ok (.iconst 1, 1) := by decide +kernel
theorem dX4_times_7 : decode cX4_times 7 = .ok (.if_icmp .lt 26, 3) := by decide +kernel
theorem dX4_times_10 : decode cX4_times 10 = .ok (.iload_n 2, 1) := by decide +kernel
theorem dX4_times_11 : decode cX4_times 11 = .ok (.iconst 3, 1) := by decide +kernel
theorem dX4_times_12 : decode cX4_times 12 = .ok (.if_icmp .gt 21, 3) := by decide +kernel
theorem dX4_times_15 : decode cX4_times 15 = .ok (.aload_n 0, 1) := by decide +kernel
theorem dX4_times_16 : decode cX4_times 16 = .ok (.getfield 27, 3) := by decide +kernel
theorem dX4_times_19 : decode cX4_times 19 = .ok (.iload_n 1, 1) := by decide +kernel
theorem dX4_times_20 : decode cX4_times 20 = .ok (.invokevirtual 61, 3) := by decide +kernel
theorem dX4_times_23 : decode cX4_times 23 = .ok (.ifCond .eq 10, 3) := by decide +kernel
theorem dX4_times_26 : decode cX4_times 26 = .ok (.aload_n 0, 1) := by decide +kernel
theorem dX4_times_27 : decode cX4_times 27 = .ok (.getfield 65, 3) := by decide +kernel
theorem dX4_times_30 : decode cX4_times 30 = .ok (.ifCond .le 5, 3) := by decide +kernel
theorem dX4_times_33 : decode cX4_times 33 = .ok (.iconst 0, 1) := by decide +kernel
theorem dX4_times_34 : decode cX4_times 34 = .ok (.ireturn, 1) := by decide +kernel
theorem dX4_times_35 : decode cX4_times 35 = .ok (.aload_n 0, 1) := by decide +kernel
theorem dX4_times_36 : decode cX4_times 36 = .ok (.getfield 27, 3) := by decide +kernel
theorem dX4_times_39 : decode cX4_times 39 = .ok (.getfield 69, 3) := by decide +kernel
theorem dX4_times_42 : decode cX4_times 42 = .ok (.iload_n 1, 1) := by decide +kernel
theorem dX4_times_43 : decode cX4_times 43 = .ok (.iload_n 2, 1) := by decide +kernel
theorem dX4_times_44 : decode cX4_times 44 = .ok (.iastore, 1) := by decide +kernel
theorem dX4_times_45 : decode cX4_times 45 = .ok (.aload_n 0, 1) := by decide +kernel
theorem dX4_times_46 : decode cX4_times 46 = .ok (.iconst 0, 1) := by decide +kernel
theorem dX4_times_47 : decode cX4_times 47 = .ok (.putfield 72, 3) := by decide +kernel
theorem dX4_times_50 : decode cX4_times 50 = .ok (.iconst 1, 1) := by decide +kernel
theorem dX4_times_51 : decode cX4_times 51 = .ok (.ireturn, 1) := by decide +kernel
set_option maxRecDepth 20000 in
theorem ggX4_row_X2_room : GoodIn wsX4_row wsX2_room := goodIn_r _ [8, 9, 23, 24, 25, 26, 27, 28, 29, 30] (by decide +kernel) (by decide +kernel)
set_option maxRecDepth 20000 in
theorem gX4_row_X2_room : GoodIn wsX4_row (wsV RX4 76 RX2 yX2_room wsX2_room) := goodIn_app (goodIn_r _ [4, 5, 6, 7] (by decide +kernel) (by decide +kernel)) ggX4_row_X2_room
set_option maxRecDepth 20000 in
theorem ggX4_row_X2_addRow : GoodIn wsX4_row wsX2_addRow := goodIn_r _ [13, 9, 23, 24, 25, 26, 27, 28, 29, 30] (by decide +kernel) (by decide +kernel)
set_option maxRecDepth 20000 in
theorem gX4_row_X2_addRow : GoodIn wsX4_row (wsV RX4 80 RX2 yX2_addRow wsX2_addRow) := goodIn_app (goodIn_r _ [10, 11, 12, 7] (by decide +kernel) (by decide +kernel)) ggX4_row_X2_addRow
theorem dX4_row_0 : decode cX4_row 0 = .ok (.aload_n 0, 1) := by decide +kernel
theorem dX4_row_1 : decode cX4_row 1 = .ok (.getfield 65, 3) := by decide +kernel
theorem dX4_row_4 : decode cX4_row 4 = .ok (.ifCond .gt 14, 3) := by decide +kernel
theorem dX4_row_7 : decode cX4_row 7 = .ok (.aload_n 0, 1) := by decide +kernel
theorem dX4_row_8 : decode cX4_row 8 = .ok (.getfield 27, 3) := by decide +kernel
theorem dX4_row_11 : decode cX4_row 11 = .ok (.invokevirtual 76, 3) := by decide +kernel
theorem dX4_row_14 : decode cX4_row 14 = .ok (.iconst 1, 1) := by decide +kernel
theorem dX4_row_15 : decode cX4_row 15 = .ok (.if_icmp .ge 5, 3) := by decide +kernel
theorem dX4_row_18 : decode cX4_row 18 = .ok (.iconst (-1), 1) := by decide +kernel
theorem dX4_row_19 : decode cX4_row 19 = .ok (.ireturn, 1) := by decide +kernel
theorem dX4_row_20 : decode cX4_row 20 = .ok (.aload_n 0, 1) := by decide +kernel
theorem dX4_row_21 : decode cX4_row 21 = .ok (.iconst 0, 1) := by decide +kernel
theorem dX4_row_22 : decode cX4_row 22 = .ok (.putfield 72, 3) := by decide +kernel
theorem dX4_row_25 : decode cX4_row 25 = .ok (.aload_n 0, 1) := by decide +kernel
theorem dX4_row_26 : decode cX4_row 26 = .ok (.getfield 27, 3) := by decide +kernel
theorem dX4_row_29 : decode cX4_row 29 = .ok (.invokevirtual 80, 3) := by decide +kernel
theorem dX4_row_32 : decode cX4_row 32 = .ok (.ireturn, 1) := by decide +kernel
set_option maxRecDepth 20000 in
theorem ggX4_entry_X4_requireColumn : GoodIn wsX4_entry wsX4_requireColumn := goodIn_r _ [10, 4, 11, 12, 13, 14, 45, 46, 47, 48, 49, 50, 51, 52, 53, 54, 55, 56, 57, 58, 59, 60, 61, 62, 63, 64, 65, 66, 67] (by decide +kernel) (by decide +kernel)
set_option maxRecDepth 20000 in
theorem gX4_entry_X4_requireColumn : GoodIn wsX4_entry (wsV RX4 57 RX4 yX4_requireColumn wsX4_requireColumn) := goodIn_app (goodIn_r _ [6, 7, 8, 9] (by decide +kernel) (by decide +kernel)) ggX4_entry_X4_requireColumn
set_option maxRecDepth 20000 in
theorem ggX4_entry_X2_lastRowTakes : GoodIn wsX4_entry wsX2_lastRowTakes := goodIn_r _ [19, 20, 21, 22, 23, 24, 25, 26, 27, 28, 54, 55, 56, 57, 58, 59, 60, 61] (by decide +kernel) (by decide +kernel)
set_option maxRecDepth 20000 in
theorem gX4_entry_X2_lastRowTakes : GoodIn wsX4_entry (wsV RX4 90 RX2 yX2_lastRowTakes wsX2_lastRowTakes) := goodIn_app (goodIn_r _ [15, 16, 17, 18] (by decide +kernel) (by decide +kernel)) ggX4_entry_X2_lastRowTakes
set_option maxRecDepth 20000 in
theorem ggX4_entry_X2_addToLastRow : GoodIn wsX4_entry wsX2_addToLastRow := goodIn_r _ [32, 20, 33, 21, 34, 35, 36, 37, 18, 38, 39, 40, 41, 42, 43, 44, 54, 55, 56, 57, 58, 59, 60, 61] (by decide +kernel) (by decide +kernel)
set_option maxRecDepth 20000 in
theorem gX4_entry_X2_addToLastRow : GoodIn wsX4_entry (wsV RX4 93 RX2 yX2_addToLastRow wsX2_addToLastRow) := goodIn_app (goodIn_r _ [29, 30, 31, 18] (by decide +kernel) (by decide +kernel)) ggX4_entry_X2_addToLastRow
theorem dX4_entry_0 : decode cX4_entry 0 = .ok (.aload_n 0, 1) := by decide +kernel
theorem dX4_entry_1 : decode cX4_entry 1 = .ok (.iload_n 1, 1) := by decide +kernel
theorem dX4_entry_2 : decode cX4_entry 2 = .ok (.invokevirtual 57, 3) := by decide +kernel
theorem dX4_entry_5 : decode cX4_entry 5 = .ok (.iload_n 2, 1) := by decide +kernel
theorem dX4_entry_6 : decode cX4_entry 6 = .ok (.ifCond .lt 9, 3) := by decide +kernel
theorem dX4_entry_9 : decode cX4_entry 9 = .ok (.iload_n 2, 1) := by decide +kernel
theorem dX4_entry_10 : decode cX4_entry 10 = .ok (.bipush 7, 2) := by decide +kernel
theorem dX4_entry_12 : decode cX4_entry 12 = .ok (.if_icmp .le 13, 3) := by decide +kernel
theorem dX4_entry_15 : decode cX4_entry 15 = .ok (.new 83, 3) := by decide +kernel
theorem dX4_entry_18 : decode cX4_entry 18 = .ok (.dup, 1) := by decide +kernel
theorem dX4_entry_19 : decode cX4_entry 19 = .ok (.ldc 85, 2) := by decide +kernel
theorem dX4_entry_21 : decode cX4_entry 21 = .ok (.invokespecial 87, 3) := by decide +kernel
theorem dX4_entry_24 : decode cX4_entry 24 = .ok (.athrow, 1) := by decide +kernel
theorem dX4_entry_25 : decode cX4_entry 25 = .ok (.aload_n 0, 1) := by decide +kernel
theorem dX4_entry_26 : decode cX4_entry 26 = .ok (.getfield 65, 3) := by decide +kernel
theorem dX4_entry_29 : decode cX4_entry 29 = .ok (.ifCond .gt 14, 3) := by decide +kernel
theorem dX4_entry_32 : decode cX4_entry 32 = .ok (.aload_n 0, 1) := by decide +kernel
theorem dX4_entry_33 : decode cX4_entry 33 = .ok (.getfield 27, 3) := by decide +kernel
theorem dX4_entry_36 : decode cX4_entry 36 = .ok (.iload_n 1, 1) := by decide +kernel
theorem dX4_entry_37 : decode cX4_entry 37 = .ok (.invokevirtual 90, 3) := by decide +kernel
theorem dX4_entry_40 : decode cX4_entry 40 = .ok (.ifCond .ne 5, 3) := by decide +kernel
theorem dX4_entry_43 : decode cX4_entry 43 = .ok (.iconst 0, 1) := by decide +kernel
theorem dX4_entry_44 : decode cX4_entry 44 = .ok (.ireturn, 1) := by decide +kernel
theorem dX4_entry_45 : decode cX4_entry 45 = .ok (.aload_n 0, 1) := by decide +kernel
theorem dX4_entry_46 : decode cX4_entry 46 = .ok (.getfield 27, 3) := by decide +kernel
theorem dX4_entry_49 : decode cX4_entry 49 = .ok (.iload_n 1, 1) := by decide +kernel
theorem dX4_entry_50 : decode cX4_entry 50 = .ok (.iload_n 2, 1) := by decide +kernel
theorem dX4_entry_51 : decode cX4_entry 51 = .ok (.invokevirtual 93, 3) := by decide +kernel
theorem dX4_entry_54 : decode cX4_entry 54 = .ok (.aload_n 0, 1) := by decide +kernel
theorem dX4_entry_55 : decode cX4_entry 55 = .ok (.iconst 0, 1) := by decide +kernel
theorem dX4_entry_56 : decode cX4_entry 56 = .ok (.putfield 72, 3) := by decide +kernel
theorem dX4_entry_59 : decode cX4_entry 59 = .ok (.iconst 1, 1) := by decide +kernel
theorem dX4_entry_60 : decode cX4_entry 60 = .ok (.ireturn, 1) := by decide +kernel
set_option maxRecDepth 20000 in
theorem ggX4_cube_X0_addCube : GoodIn wsX4_cube wsX0_addCube := goodIn_r _ [6, 7, 8, 9, 10, 11, 12, 13, 14, 24, 25, 26, 27, 28, 29, 30] (by decide +kernel) (by decide +kernel)
set_option maxRecDepth 20000 in
theorem gX4_cube_X0_addCube : GoodIn wsX4_cube (wsV RX4 96 RX0 yX0_addCube wsX0_addCube) := goodIn_app (goodIn_r _ [2, 3, 4, 5] (by decide +kernel) (by decide +kernel)) ggX4_cube_X0_addCube
theorem dX4_cube_0 : decode cX4_cube 0 = .ok (.aload_n 0, 1) := by decide +kernel
theorem dX4_cube_1 : decode cX4_cube 1 = .ok (.getfield 34, 3) := by decide +kernel
theorem dX4_cube_4 : decode cX4_cube 4 = .ok (.iload_n 1, 1) := by decide +kernel
theorem dX4_cube_5 : decode cX4_cube 5 = .ok (.iload_n 2, 1) := by decide +kernel
theorem dX4_cube_6 : decode cX4_cube 6 = .ok (.iload_n 3, 1) := by decide +kernel
theorem dX4_cube_7 : decode cX4_cube 7 = .ok (.invokevirtual 96, 3) := by decide +kernel
theorem dX4_cube_10 : decode cX4_cube 10 = .ok (.ireturn, 1) := by decide +kernel
set_option maxRecDepth 20000 in
theorem ggX4_lay_X4_requireColumn : GoodIn wsX4_lay wsX4_requireColumn := goodIn_r _ [10, 3, 11, 12, 13, 14, 117, 118, 119, 120, 121, 122, 123, 124, 125, 126, 127, 128, 129, 130, 131, 132, 133, 134, 135, 136, 137, 138, 139] (by decide +kernel) (by decide +kernel)
set_option maxRecDepth 20000 in
theorem gX4_lay_X4_requireColumn : GoodIn wsX4_lay (wsV RX4 57 RX4 yX4_requireColumn wsX4_requireColumn) := goodIn_app (goodIn_r _ [6, 7, 8, 9] (by decide +kernel) (by decide +kernel)) ggX4_lay_X4_requireColumn
set_option maxRecDepth 20000 in
theorem ggX4_lay_X2_holdsBox : GoodIn wsX4_lay wsX2_holdsBox := goodIn_r _ [19, 20, 126, 127, 128, 129, 130, 131, 132, 133] (by decide +kernel) (by decide +kernel)
set_option maxRecDepth 20000 in
theorem gX4_lay_X2_holdsBox : GoodIn wsX4_lay (wsV RX4 100 RX2 yX2_holdsBox wsX2_holdsBox) := goodIn_app (goodIn_r _ [15, 16, 17, 18] (by decide +kernel) (by decide +kernel)) ggX4_lay_X2_holdsBox
set_option maxRecDepth 20000 in
theorem ggX4_lay_X0_isEmpty : GoodIn wsX4_lay wsX0_isEmpty := goodIn_r _ [25, 26, 140, 141, 142, 143, 144, 145, 146] (by decide +kernel) (by decide +kernel)
set_option maxRecDepth 20000 in
theorem gX4_lay_X0_isEmpty : GoodIn wsX4_lay (wsV RX4 103 RX0 yX0_isEmpty wsX0_isEmpty) := goodIn_app (goodIn_r _ [21, 22, 23, 24] (by decide +kernel) (by decide +kernel)) ggX4_lay_X0_isEmpty
set_option maxRecDepth 20000 in
theorem ggX4_lay_X0_chooseBox : GoodIn wsX4_lay wsX0_chooseBox := goodIn_r _ [30, 31, 32, 33, 140, 141, 142, 143, 144, 145, 146] (by decide +kernel) (by decide +kernel)
set_option maxRecDepth 20000 in
theorem gX4_lay_X0_chooseBox : GoodIn wsX4_lay (wsV RX4 109 RX0 yX0_chooseBox wsX0_chooseBox) := goodIn_app (goodIn_r _ [27, 28, 29, 24] (by decide +kernel) (by decide +kernel)) ggX4_lay_X0_chooseBox
set_option maxRecDepth 20000 in
theorem ggX4_lay_X2_room : GoodIn wsX4_lay wsX2_room := goodIn_r _ [37, 38, 126, 127, 128, 129, 130, 131, 132, 133] (by decide +kernel) (by decide +kernel)
set_option maxRecDepth 20000 in
theorem gX4_lay_X2_room : GoodIn wsX4_lay (wsV RX4 76 RX2 yX2_room wsX2_room) := goodIn_app (goodIn_r _ [34, 35, 36, 18] (by decide +kernel) (by decide +kernel)) ggX4_lay_X2_room
set_option maxRecDepth 20000 in
theorem ggX4_lay_X0_findSets : GoodIn wsX4_lay wsX0_findSets := goodIn_r _ [42, 43, 44, 45, 46, 24, 47, 48, 49, 50, 51, 52, 53, 54, 55, 56, 57, 58, 59, 60, 61, 62, 26, 63, 64, 65, 66, 67, 68, 69, 70, 71, 72, 33, 32, 31, 73, 74, 75, 76, 77, 78, 79, 80, 81, 140, 141, 142, 143, 144, 145, 146] (by decide +kernel) (by decide +kernel)
set_option maxRecDepth 20000 in
theorem gX4_lay_X0_findSets : GoodIn wsX4_lay (wsV RX4 113 RX0 yX0_findSets wsX0_findSets) := goodIn_app (goodIn_r _ [39, 40, 41, 24] (by decide +kernel) (by decide +kernel)) ggX4_lay_X0_findSets
set_option maxRecDepth 20000 in
theorem ggX4_lay_X4_addLaidRows : GoodIn wsX4_lay wsX4_addLaidRows := goodIn_r _ [85, 3, 4, 86, 87, 88, 89, 90, 18, 91, 20, 92, 93, 94, 95, 38, 96, 97, 98, 99, 100, 101, 102, 103, 104, 105, 106, 107, 108, 109, 110, 111, 112, 113, 114, 115, 24, 116, 26, 117, 118, 119, 120, 121, 122, 123, 124, 125, 140, 141, 142, 143, 144, 145, 146, 126, 127, 128, 129, 130, 131, 132, 133] (by decide +kernel) (by decide +kernel)
set_option maxRecDepth 20000 in
theorem gX4_lay_X4_addLaidRows : GoodIn wsX4_lay (wsV RX4 116 RX4 yX4_addLaidRows wsX4_addLaidRows) := goodIn_app (goodIn_r _ [82, 83, 84, 9] (by decide +kernel) (by decide +kernel)) ggX4_lay_X4_addLaidRows
theorem dX4_lay_0 : decode cX4_lay 0 = .ok (.iload 5, 2) := by decide +kernel
theorem dX4_lay_2 : decode cX4_lay 2 = .ok (.iconst (-1), 1) := by decide +kernel
theorem dX4_lay_3 : decode cX4_lay 3 = .ok (.if_icmp .eq 9, 3) := by decide +kernel
theorem dX4_lay_6 : decode cX4_lay 6 = .ok (.aload_n 0, 1) := by decide +kernel
theorem dX4_lay_7 : decode cX4_lay 7 = .ok (.iload 5, 2) := by decide +kernel
theorem dX4_lay_9 : decode cX4_lay 9 = .ok (.invokevirtual 57, 3) := by decide +kernel
theorem dX4_lay_12 : decode cX4_lay 12 = .ok (.aload_n 0, 1) := by decide +kernel
theorem dX4_lay_13 : decode cX4_lay 13 = .ok (.getfield 27, 3) := by decide +kernel
theorem dX4_lay_16 : decode cX4_lay 16 = .ok (.iload_n 1, 1) := by decide +kernel
theorem dX4_lay_17 : decode cX4_lay 17 = .ok (.iload_n 2, 1) := by decide +kernel
theorem dX4_lay_18 : decode cX4_lay 18 = .ok (.iload_n 3, 1) := by decide +kernel
theorem dX4_lay_19 : decode cX4_lay 19 = .ok (.invokevirtual 100, 3) := by decide +kernel
theorem dX4_lay_22 : decode cX4_lay 22 = .ok (.ifCond .eq 18, 3) := by decide +kernel
theorem dX4_lay_25 : decode cX4_lay 25 = .ok (.iload 4, 2) := by decide +kernel
theorem dX4_lay_27 : decode cX4_lay 27 = .ok (.ifCond .lt 13, 3) := by decide +kernel
theorem dX4_lay_30 : decode cX4_lay 30 = .ok (.iload 4, 2) := by decide +kernel
theorem dX4_lay_32 : decode cX4_lay 32 = .ok (.iconst 3, 1) := by decide +kernel
theorem dX4_lay_33 : decode cX4_lay 33 = .ok (.if_icmp .gt 7, 3) := by decide +kernel
theorem dX4_lay_36 : decode cX4_lay 36 = .ok (.iconst 1, 1) := by decide +kernel
theorem dX4_lay_37 : decode cX4_lay 37 = .ok (.goto 4, 3) := by decide +kernel
theorem dX4_lay_40 : decode cX4_lay 40 = .ok (.iconst 0, 1) := by decide +kernel
theorem dX4_lay_41 : decode cX4_lay 41 = .ok (.istore 6, 2) := by decide +kernel
theorem dX4_lay_43 : decode cX4_lay 43 = .ok (.iload 6, 2) := by decide +kernel
theorem dX4_lay_45 : decode cX4_lay 45 = .ok (.ifCond .eq 20, 3) := by decide +kernel
theorem dX4_lay_48 : decode cX4_lay 48 = .ok (.aload_n 0, 1) := by decide +kernel
theorem dX4_lay_49 : decode cX4_lay 49 = .ok (.getfield 34, 3) := by decide +kernel
theorem dX4_lay_52 : decode cX4_lay 52 = .ok (.invokevirtual 103, 3) := by decide +kernel
theorem dX4_lay_55 : decode cX4_lay 55 = .ok (.ifCond .ne 10, 3) := by decide +kernel
theorem dX4_lay_58 : decode cX4_lay 58 = .ok (.aload_n 0, 1) := by decide +kernel
theorem dX4_lay_59 : decode cX4_lay 59 = .ok (.getfield 65, 3) := by decide +kernel
theorem dX4_lay_62 : decode cX4_lay 62 = .ok (.ifCond .le 5, 3) := by decide +kernel
theorem dX4_lay_65 : decode cX4_lay 65 = .ok (.iconst (-1), 1) := by decide +kernel
theorem dX4_lay_66 : decode cX4_lay 66 = .ok (.ireturn, 1) := by decide +kernel
theorem dX4_lay_67 : decode cX4_lay 67 = .ok (.iload 5, 2) := by decide +kernel
theorem dX4_lay_69 : decode cX4_lay 69 = .ok (.iconst (-1), 1) := by decide +kernel
theorem dX4_lay_70 : decode cX4_lay 70 = .ok (.if_icmp .eq 23, 3) := by decide +kernel
theorem dX4_lay_73 : decode cX4_lay 73 = .ok (.iload 5, 2) := by decide +kernel
theorem dX4_lay_75 : decode cX4_lay 75 = .ok (.iload_n 1, 1) := by decide +kernel
theorem dX4_lay_76 : decode cX4_lay 76 = .ok (.iload_n 2, 1) := by decide +kernel
theorem dX4_lay_77 : decode cX4_lay 77 = .ok (.imul, 1) := by decide +kernel
theorem dX4_lay_78 : decode cX4_lay 78 = .ok (.iload_n 3, 1) := by decide +kernel
theorem dX4_lay_79 : decode cX4_lay 79 = .ok (.imul, 1) := by decide +kernel
theorem dX4_lay_80 : decode cX4_lay 80 = .ok (.if_icmp .ge 13, 3) := by decide +kernel
theorem dX4_lay_83 : decode cX4_lay 83 = .ok (.new 83, 3) := by decide +kernel
theorem dX4_lay_86 : decode cX4_lay 86 = .ok (.dup, 1) := by decide +kernel
theorem dX4_lay_87 : decode cX4_lay 87 = .ok (.ldc 107, 2) := by decide +kernel
theorem dX4_lay_89 : decode cX4_lay 89 = .ok (.invokespecial 87, 3) := by decide +kernel
theorem dX4_lay_92 : decode cX4_lay 92 = .ok (.athrow, 1) := by decide +kernel
theorem dX4_lay_93 : decode cX4_lay 93 = .ok (.aload_n 0, 1) := by decide +kernel
theorem dX4_lay_94 : decode cX4_lay 94 = .ok (.getfield 34, 3) := by decide +kernel
theorem dX4_lay_97 : decode cX4_lay 97 = .ok (.iload_n 1, 1) := by decide +kernel
theorem dX4_lay_98 : decode cX4_lay 98 = .ok (.iload_n 2, 1) := by decide +kernel
theorem dX4_lay_99 : decode cX4_lay 99 = .ok (.iload_n 3, 1) := by decide +kernel
theorem dX4_lay_100 : decode cX4_lay 100 = .ok (.invokevirtual 109, 3) := by decide +kernel
theorem dX4_lay_103 : decode cX4_lay 103 = .ok (.aload_n 0, 1) := by decide +kernel
theorem dX4_lay_104 : decode cX4_lay 104 = .ok (.getfield 34, 3) := by decide +kernel
theorem dX4_lay_107 : decode cX4_lay 107 = .ok (.iload 4, 2) := by decide +kernel
theorem dX4_lay_109 : decode cX4_lay 109 = .ok (.aload_n 0, 1) := by decide +kernel
theorem dX4_lay_110 : decode cX4_lay 110 = .ok (.getfield 27, 3) := by decide +kernel
theorem dX4_lay_113 : decode cX4_lay 113 = .ok (.invokevirtual 76, 3) := by decide +kernel
theorem dX4_lay_116 : decode cX4_lay 116 = .ok (.invokevirtual 113, 3) := by decide +kernel
theorem dX4_lay_119 : decode cX4_lay 119 = .ok (.istore 7, 2) := by decide +kernel
theorem dX4_lay_121 : decode cX4_lay 121 = .ok (.iload 7, 2) := by decide +kernel
theorem dX4_lay_123 : decode cX4_lay 123 = .ok (.ifCond .ge 5, 3) := by decide +kernel
theorem dX4_lay_126 : decode cX4_lay 126 = .ok (.iconst (-1), 1) := by decide +kernel
theorem dX4_lay_127 : decode cX4_lay 127 = .ok (.ireturn, 1) := by decide +kernel
theorem dX4_lay_128 : decode cX4_lay 128 = .ok (.aload_n 0, 1) := by decide +kernel
theorem dX4_lay_129 : decode cX4_lay 129 = .ok (.iload 7, 2) := by decide +kernel
theorem dX4_lay_131 : decode cX4_lay 131 = .ok (.iload 5, 2) := by decide +kernel
theorem dX4_lay_133 : decode cX4_lay 133 = .ok (.iconst (-1), 1) := by decide +kernel
theorem dX4_lay_134 : decode cX4_lay 134 = .ok (.if_icmp .ne 7, 3) := by decide +kernel
theorem dX4_lay_137 : decode cX4_lay 137 = .ok (.iconst 0, 1) := by decide +kernel
theorem dX4_lay_138 : decode cX4_lay 138 = .ok (.goto 7, 3) := by decide +kernel
theorem dX4_lay_141 : decode cX4_lay 141 = .ok (.iconst 1, 1) := by decide +kernel
theorem dX4_lay_142 : decode cX4_lay 142 = .ok (.iload 5, 2) := by decide +kernel
theorem dX4_lay_144 : decode cX4_lay 144 = .ok (.ishl, 1) := by decide +kernel
theorem dX4_lay_145 : decode cX4_lay 145 = .ok (.invokevirtual 116, 3) := by decide +kernel
theorem dX4_lay_148 : decode cX4_lay 148 = .ok (.iload 7, 2) := by decide +kernel
theorem dX4_lay_150 : decode cX4_lay 150 = .ok (.ireturn, 1) := by decide +kernel
set_option maxRecDepth 20000 in
theorem ggX4_addLaidRows_X2_addRowOf : GoodIn wsX4_addLaidRows wsX2_addRowOf := goodIn_r _ [9, 10, 11, 12, 13, 8, 14, 15, 16, 17, 18, 19, 20, 21, 22, 23, 24, 25, 26, 27, 28, 29, 30, 31, 32, 55, 56, 57, 58, 59, 60, 61, 62] (by decide +kernel) (by decide +kernel)
set_option maxRecDepth 20000 in
theorem gX4_addLaidRows_X2_addRowOf : GoodIn wsX4_addLaidRows (wsV RX4 122 RX2 yX2_addRowOf wsX2_addRowOf) := goodIn_app (goodIn_r _ [5, 6, 7, 8] (by decide +kernel) (by decide +kernel)) ggX4_addLaidRows_X2_addRowOf
set_option maxRecDepth 20000 in
theorem ggX4_addLaidRows_X0_clear : GoodIn wsX4_addLaidRows wsX0_clear := goodIn_r _ [37, 38, 48, 49, 50, 51, 52, 53, 54] (by decide +kernel) (by decide +kernel)
set_option maxRecDepth 20000 in
theorem gX4_addLaidRows_X0_clear : GoodIn wsX4_addLaidRows (wsV RX4 125 RX0 yX0_clear wsX0_clear) := goodIn_app (goodIn_r _ [33, 34, 35, 36] (by decide +kernel) (by decide +kernel)) ggX4_addLaidRows_X0_clear
theorem dX4_addLaidRows_0 : decode cX4_addLaidRows 0 = .ok (.iconst 0, 1) := by decide +kernel
theorem dX4_addLaidRows_1 : decode cX4_addLaidRows 1 = .ok (.istore_n 3, 1) := by decide +kernel
theorem dX4_addLaidRows_2 : decode cX4_addLaidRows 2 = .ok (.iload_n 3, 1) := by decide +kernel
theorem dX4_addLaidRows_3 : decode cX4_addLaidRows 3 = .ok (.iload_n 1, 1) := by decide +kernel
theorem dX4_addLaidRows_4 : decode cX4_addLaidRows 4 = .ok (.if_icmp .ge 27, 3) := by decide +kernel
theorem dX4_addLaidRows_7 : decode cX4_addLaidRows 7 = .ok (.aload_n 0, 1) := by decide +kernel
theorem dX4_addLaidRows_8 : decode cX4_addLaidRows 8 = .ok (.getfield 27, 3) := by decide +kernel
theorem dX4_addLaidRows_11 : decode cX4_addLaidRows 11 = .ok (.aload_n 0, 1) := by decide +kernel
theorem dX4_addLaidRows_12 : decode cX4_addLaidRows 12 = .ok (.getfield 34, 3) := by decide +kernel
theorem dX4_addLaidRows_15 : decode cX4_addLaidRows 15 = .ok (.getfield 119, 3) := by decide +kernel
theorem dX4_addLaidRows_18 : decode cX4_addLaidRows 18 = .ok (.iload_n 3, 1) := by decide +kernel
theorem dX4_addLaidRows_19 : decode cX4_addLaidRows 19 = .ok (.iaload, 1) := by decide +kernel
theorem dX4_addLaidRows_20 : decode cX4_addLaidRows 20 = .ok (.iload_n 2, 1) := by decide +kernel
theorem dX4_addLaidRows_21 : decode cX4_addLaidRows 21 = .ok (.ior, 1) := by decide +kernel
theorem dX4_addLaidRows_22 : decode cX4_addLaidRows 22 = .ok (.invokevirtual 122, 3) := by decide +kernel
theorem dX4_addLaidRows_25 : decode cX4_addLaidRows 25 = .ok (.iinc 3 1, 3) := by decide +kernel
theorem dX4_addLaidRows_28 : decode cX4_addLaidRows 28 = .ok (.goto (-26), 3) := by decide +kernel
theorem dX4_addLaidRows_31 : decode cX4_addLaidRows 31 = .ok (.aload_n 0, 1) := by decide +kernel
theorem dX4_addLaidRows_32 : decode cX4_addLaidRows 32 = .ok (.getfield 34, 3) := by decide +kernel
theorem dX4_addLaidRows_35 : decode cX4_addLaidRows 35 = .ok (.invokevirtual 125, 3) := by decide +kernel
theorem dX4_addLaidRows_38 : decode cX4_addLaidRows 38 = .ok (.iload_n 1, 1) := by decide +kernel
theorem dX4_addLaidRows_39 : decode cX4_addLaidRows 39 = .ok (.ifCond .le 8, 3) := by decide +kernel
theorem dX4_addLaidRows_42 : decode cX4_addLaidRows 42 = .ok (.aload_n 0, 1) := by decide +kernel
theorem dX4_addLaidRows_43 : decode cX4_addLaidRows 43 = .ok (.iconst 0, 1) := by decide +kernel
theorem dX4_addLaidRows_44 : decode cX4_addLaidRows 44 = .ok (.putfield 72, 3) := by decide +kernel
theorem dX4_addLaidRows_47 : decode cX4_addLaidRows 47 = .ok (.return_, 1) := by decide +kernel
set_option maxRecDepth 20000 in
theorem ggX4_take_X4_requireRow : GoodIn wsX4_take wsX4_requireRow := goodIn_r _ [10, 2, 11, 12, 13, 14, 46, 47, 48, 49, 50, 51, 52, 53, 54, 55, 56, 57, 58, 59, 60, 61, 62, 63, 64, 65, 66, 67, 68] (by decide +kernel) (by decide +kernel)
set_option maxRecDepth 20000 in
theorem gX4_take_X4_requireRow : GoodIn wsX4_take (wsV RX4 128 RX4 yX4_requireRow wsX4_requireRow) := goodIn_app (goodIn_r _ [6, 7, 8, 9] (by decide +kernel) (by decide +kernel)) ggX4_take_X4_requireRow
set_option maxRecDepth 20000 in
theorem ggX4_take_X2_fitting : GoodIn wsX4_take wsX2_fitting := goodIn_r _ [19, 20, 21, 22, 23, 24, 25, 18, 26, 27, 28, 29, 30, 31, 32, 33, 34, 35, 36, 37, 38, 39, 40, 41, 42, 43, 44, 45, 55, 56, 57, 58, 59, 60, 61, 62] (by decide +kernel) (by decide +kernel)
set_option maxRecDepth 20000 in
theorem gX4_take_X2_fitting : GoodIn wsX4_take (wsV RX4 135 RX2 yX2_fitting wsX2_fitting) := goodIn_app (goodIn_r _ [15, 16, 17, 18] (by decide +kernel) (by decide +kernel)) ggX4_take_X2_fitting
theorem dX4_take_0 : decode cX4_take 0 = .ok (.aload_n 0, 1) := by decide +kernel
theorem dX4_take_1 : decode cX4_take 1 = .ok (.iload_n 1, 1) := by decide +kernel
theorem dX4_take_2 : decode cX4_take 2 = .ok (.invokevirtual 128, 3) := by decide +kernel
theorem dX4_take_5 : decode cX4_take 5 = .ok (.aload_n 0, 1) := by decide +kernel
theorem dX4_take_6 : decode cX4_take 6 = .ok (.getfield 65, 3) := by decide +kernel
theorem dX4_take_9 : decode cX4_take 9 = .ok (.bipush 60, 2) := by decide +kernel
theorem dX4_take_11 : decode cX4_take 11 = .ok (.if_icmp .ge 23, 3) := by decide +kernel
theorem dX4_take_14 : decode cX4_take 14 = .ok (.aload_n 0, 1) := by decide +kernel
theorem dX4_take_15 : decode cX4_take 15 = .ok (.getfield 27, 3) := by decide +kernel
theorem dX4_take_18 : decode cX4_take 18 = .ok (.aload_n 0, 1) := by decide +kernel
theorem dX4_take_19 : decode cX4_take 19 = .ok (.getfield 131, 3) := by decide +kernel
theorem dX4_take_22 : decode cX4_take 22 = .ok (.invokevirtual 135, 3) := by decide +kernel
theorem dX4_take_25 : decode cX4_take 25 = .ok (.iload_n 1, 1) := by decide +kernel
theorem dX4_take_26 : decode cX4_take 26 = .ok (.lshr, 1) := by decide +kernel
theorem dX4_take_27 : decode cX4_take 27 = .ok (.lconst 1, 1) := by decide +kernel
theorem dX4_take_28 : decode cX4_take 28 = .ok (.land, 1) := by decide +kernel
theorem dX4_take_29 : decode cX4_take 29 = .ok (.lconst 0, 1) := by decide +kernel
theorem dX4_take_30 : decode cX4_take 30 = .ok (.lcmp, 1) := by decide +kernel
theorem dX4_take_31 : decode cX4_take 31 = .ok (.ifCond .ne 5, 3) := by decide +kernel
theorem dX4_take_34 : decode cX4_take 34 = .ok (.iconst 0, 1) := by decide +kernel
theorem dX4_take_35 : decode cX4_take 35 = .ok (.ireturn, 1) := by decide +kernel
theorem dX4_take_36 : decode cX4_take 36 = .ok (.aload_n 0, 1) := by decide +kernel
theorem dX4_take_37 : decode cX4_take 37 = .ok (.getfield 9, 3) := by decide +kernel
theorem dX4_take_40 : decode cX4_take 40 = .ok (.aload_n 0, 1) := by decide +kernel
theorem dX4_take_41 : decode cX4_take 41 = .ok (.getfield 65, 3) := by decide +kernel
theorem dX4_take_44 : decode cX4_take 44 = .ok (.iload_n 1, 1) := by decide +kernel
theorem dX4_take_45 : decode cX4_take 45 = .ok (.iastore, 1) := by decide +kernel
theorem dX4_take_46 : decode cX4_take 46 = .ok (.aload_n 0, 1) := by decide +kernel
theorem dX4_take_47 : decode cX4_take 47 = .ok (.dup, 1) := by decide +kernel
theorem dX4_take_48 : decode cX4_take 48 = .ok (.getfield 65, 3) := by decide +kernel
theorem dX4_take_51 : decode cX4_take 51 = .ok (.iconst 1, 1) := by decide +kernel
theorem dX4_take_52 : decode cX4_take 52 = .ok (.iadd, 1) := by decide +kernel
theorem dX4_take_53 : decode cX4_take 53 = .ok (.putfield 65, 3) := by decide +kernel
theorem dX4_take_56 : decode cX4_take 56 = .ok (.aload_n 0, 1) := by decide +kernel
theorem dX4_take_57 : decode cX4_take 57 = .ok (.dup, 1) := by decide +kernel
theorem dX4_take_58 : decode cX4_take 58 = .ok (.getfield 131, 3) := by decide +kernel
theorem dX4_take_61 : decode cX4_take 61 = .ok (.lconst 1, 1) := by decide +kernel
theorem dX4_take_62 : decode cX4_take 62 = .ok (.iload_n 1, 1) := by decide +kernel
theorem dX4_take_63 : decode cX4_take 63 = .ok (.lshl, 1) := by decide +kernel
theorem dX4_take_64 : decode cX4_take 64 = .ok (.lor, 1) := by decide +kernel
theorem dX4_take_65 : decode cX4_take 65 = .ok (.putfield 131, 3) := by decide +kernel
theorem dX4_take_68 : decode cX4_take 68 = .ok (.aload_n 0, 1) := by decide +kernel
theorem dX4_take_69 : decode cX4_take 69 = .ok (.iconst 0, 1) := by decide +kernel
theorem dX4_take_70 : decode cX4_take 70 = .ok (.putfield 72, 3) := by decide +kernel
theorem dX4_take_73 : decode cX4_take 73 = .ok (.iconst 1, 1) := by decide +kernel
theorem dX4_take_74 : decode cX4_take 74 = .ok (.ireturn, 1) := by decide +kernel
theorem dX4_untake_0 : decode cX4_untake 0 = .ok (.aload_n 0, 1) := by decide +kernel
theorem dX4_untake_1 : decode cX4_untake 1 = .ok (.getfield 65, 3) := by decide +kernel
theorem dX4_untake_4 : decode cX4_untake 4 = .ok (.iconst 1, 1) := by decide +kernel
theorem dX4_untake_5 : decode cX4_untake 5 = .ok (.if_icmp .ge 5, 3) := by decide +kernel
theorem dX4_untake_8 : decode cX4_untake 8 = .ok (.iconst (-1), 1) := by decide +kernel
theorem dX4_untake_9 : decode cX4_untake 9 = .ok (.ireturn, 1) := by decide +kernel
theorem dX4_untake_10 : decode cX4_untake 10 = .ok (.aload_n 0, 1) := by decide +kernel
theorem dX4_untake_11 : decode cX4_untake 11 = .ok (.dup, 1) := by decide +kernel
theorem dX4_untake_12 : decode cX4_untake 12 = .ok (.getfield 65, 3) := by decide +kernel
theorem dX4_untake_15 : decode cX4_untake 15 = .ok (.iconst 1, 1) := by decide +kernel
theorem dX4_untake_16 : decode cX4_untake 16 = .ok (.isub, 1) := by decide +kernel
theorem dX4_untake_17 : decode cX4_untake 17 = .ok (.putfield 65, 3) := by decide +kernel
theorem dX4_untake_20 : decode cX4_untake 20 = .ok (.aload_n 0, 1) := by decide +kernel
theorem dX4_untake_21 : decode cX4_untake 21 = .ok (.getfield 9, 3) := by decide +kernel
theorem dX4_untake_24 : decode cX4_untake 24 = .ok (.aload_n 0, 1) := by decide +kernel
theorem dX4_untake_25 : decode cX4_untake 25 = .ok (.getfield 65, 3) := by decide +kernel
theorem dX4_untake_28 : decode cX4_untake 28 = .ok (.iaload, 1) := by decide +kernel
theorem dX4_untake_29 : decode cX4_untake 29 = .ok (.istore_n 1, 1) := by decide +kernel
theorem dX4_untake_30 : decode cX4_untake 30 = .ok (.aload_n 0, 1) := by decide +kernel
theorem dX4_untake_31 : decode cX4_untake 31 = .ok (.dup, 1) := by decide +kernel
theorem dX4_untake_32 : decode cX4_untake 32 = .ok (.getfield 131, 3) := by decide +kernel
theorem dX4_untake_35 : decode cX4_untake 35 = .ok (.lconst 1, 1) := by decide +kernel
theorem dX4_untake_36 : decode cX4_untake 36 = .ok (.iload_n 1, 1) := by decide +kernel
theorem dX4_untake_37 : decode cX4_untake 37 = .ok (.lshl, 1) := by decide +kernel
theorem dX4_untake_38 : decode cX4_untake 38 = .ok (.ldc2_w 139, 3) := by decide +kernel
theorem dX4_untake_41 : decode cX4_untake 41 = .ok (.lxor, 1) := by decide +kernel
theorem dX4_untake_42 : decode cX4_untake 42 = .ok (.land, 1) := by decide +kernel
theorem dX4_untake_43 : decode cX4_untake 43 = .ok (.putfield 131, 3) := by decide +kernel
theorem dX4_untake_46 : decode cX4_untake 46 = .ok (.aload_n 0, 1) := by decide +kernel
theorem dX4_untake_47 : decode cX4_untake 47 = .ok (.iconst 0, 1) := by decide +kernel
theorem dX4_untake_48 : decode cX4_untake 48 = .ok (.putfield 72, 3) := by decide +kernel
theorem dX4_untake_51 : decode cX4_untake 51 = .ok (.iload_n 1, 1) := by decide +kernel
theorem dX4_untake_52 : decode cX4_untake 52 = .ok (.ireturn, 1) := by decide +kernel
set_option maxRecDepth 20000 in
theorem ggX4_open_X4_requireColumn : GoodIn wsX4_open wsX4_requireColumn := goodIn_r _ [8, 1, 9, 10, 11, 12, 45, 46, 47, 48, 49, 50, 51, 52, 53, 54, 55, 56, 57, 58, 59, 60, 61, 62, 63, 64, 65, 66, 67] (by decide +kernel) (by decide +kernel)
set_option maxRecDepth 20000 in
theorem gX4_open_X4_requireColumn : GoodIn wsX4_open (wsV RX4 57 RX4 yX4_requireColumn wsX4_requireColumn) := goodIn_app (goodIn_r _ [4, 5, 6, 7] (by decide +kernel) (by decide +kernel)) ggX4_open_X4_requireColumn
set_option maxRecDepth 20000 in
theorem ggX4_open_X2_fitting : GoodIn wsX4_open wsX2_fitting := goodIn_r _ [17, 18, 19, 20, 21, 22, 23, 16, 24, 25, 26, 27, 28, 29, 30, 31, 32, 33, 34, 35, 36, 37, 38, 39, 40, 41, 42, 43, 54, 55, 56, 57, 58, 59, 60, 61] (by decide +kernel) (by decide +kernel)
set_option maxRecDepth 20000 in
theorem gX4_open_X2_fitting : GoodIn wsX4_open (wsV RX4 135 RX2 yX2_fitting wsX2_fitting) := goodIn_app (goodIn_r _ [13, 14, 15, 16] (by decide +kernel) (by decide +kernel)) ggX4_open_X2_fitting
set_option maxRecDepth 20000 in
theorem ggX4_open_J13_bitCount_95d88 : GoodIn wsX4_open wsJ13_bitCount_95d88 := goodIn_r _ [35, 36, 37, 38] (by decide +kernel) (by decide +kernel)
set_option maxRecDepth 20000 in
theorem gX4_open_J13_bitCount_95d88 : GoodIn wsX4_open (va_wsS RX4 145 yJ13_bitCount_95d88 wsJ13_bitCount_95d88) := goodIn_app (goodIn_r _ [44, 33, 34] (by decide +kernel) (by decide +kernel)) ggX4_open_J13_bitCount_95d88
theorem dX4_open_0 : decode cX4_open 0 = .ok (.aload_n 0, 1) := by decide +kernel
theorem dX4_open_1 : decode cX4_open 1 = .ok (.iload_n 1, 1) := by decide +kernel
theorem dX4_open_2 : decode cX4_open 2 = .ok (.invokevirtual 57, 3) := by decide +kernel
theorem dX4_open_5 : decode cX4_open 5 = .ok (.aload_n 0, 1) := by decide +kernel
theorem dX4_open_6 : decode cX4_open 6 = .ok (.getfield 27, 3) := by decide +kernel
theorem dX4_open_9 : decode cX4_open 9 = .ok (.aload_n 0, 1) := by decide +kernel
theorem dX4_open_10 : decode cX4_open 10 = .ok (.getfield 131, 3) := by decide +kernel
theorem dX4_open_13 : decode cX4_open 13 = .ok (.invokevirtual 135, 3) := by decide +kernel
theorem dX4_open_16 : decode cX4_open 16 = .ok (.aload_n 0, 1) := by decide +kernel
theorem dX4_open_17 : decode cX4_open 17 = .ok (.getfield 27, 3) := by decide +kernel
theorem dX4_open_20 : decode cX4_open 20 = .ok (.getfield 141, 3) := by decide +kernel
theorem dX4_open_23 : decode cX4_open 23 = .ok (.iload_n 1, 1) := by decide +kernel
theorem dX4_open_24 : decode cX4_open 24 = .ok (.laload, 1) := by decide +kernel
theorem dX4_open_25 : decode cX4_open 25 = .ok (.land, 1) := by decide +kernel
theorem dX4_open_26 : decode cX4_open 26 = .ok (.invokestatic 145, 3) := by decide +kernel
theorem dX4_open_29 : decode cX4_open 29 = .ok (.ireturn, 1) := by decide +kernel
set_option maxRecDepth 20000 in
theorem ggX4_ways_X1_run : GoodIn wsX4_ways wsX1_run := goodIn_r _ [9, 10, 11, 12, 13, 14, 15, 16, 17, 18, 19, 20, 21, 22, 23, 24, 25, 26, 27, 28, 29, 30, 31, 32, 33, 34, 35, 36, 37, 38, 39, 40, 41, 42, 43, 44, 45, 46, 47, 48, 49, 50, 51, 52, 53, 54, 8, 55, 56, 57, 58, 59, 60, 61, 62, 63, 64, 65, 66, 67, 68, 69, 70, 71, 72, 73, 74, 75, 76, 77, 78, 79, 80, 81, 82, 83, 84, 94, 95, 96, 97, 98, 99, 100, 101, 102, 103, 104, 105, 106, 107, 108, 109] (by decide +kernel) (by decide +kernel)
set_option maxRecDepth 20000 in
theorem gX4_ways_X1_run : GoodIn wsX4_ways (wsV RX4 152 RX1 yX1_run wsX1_run) := goodIn_app (goodIn_r _ [5, 6, 7, 8] (by decide +kernel) (by decide +kernel)) ggX4_ways_X1_run
theorem dX4_ways_0 : decode cX4_ways 0 = .ok (.iload_n 1, 1) := by decide +kernel
theorem dX4_ways_1 : decode cX4_ways 1 = .ok (.iconst 1, 1) := by decide +kernel
theorem dX4_ways_2 : decode cX4_ways 2 = .ok (.if_icmp .lt 9, 3) := by decide +kernel
theorem dX4_ways_5 : decode cX4_ways 5 = .ok (.iload_n 1, 1) := by decide +kernel
theorem dX4_ways_6 : decode cX4_ways 6 = .ok (.ldc 151, 2) := by decide +kernel
theorem dX4_ways_8 : decode cX4_ways 8 = .ok (.if_icmp .le 5, 3) := by decide +kernel
theorem dX4_ways_11 : decode cX4_ways 11 = .ok (.iconst (-1), 1) := by decide +kernel
theorem dX4_ways_12 : decode cX4_ways 12 = .ok (.ireturn, 1) := by decide +kernel
theorem dX4_ways_13 : decode cX4_ways 13 = .ok (.aload_n 0, 1) := by decide +kernel
theorem dX4_ways_14 : decode cX4_ways 14 = .ok (.iconst 1, 1) := by decide +kernel
theorem dX4_ways_15 : decode cX4_ways 15 = .ok (.putfield 72, 3) := by decide +kernel
theorem dX4_ways_18 : decode cX4_ways 18 = .ok (.aload_n 0, 1) := by decide +kernel
theorem dX4_ways_19 : decode cX4_ways 19 = .ok (.getfield 50, 3) := by decide +kernel
theorem dX4_ways_22 : decode cX4_ways 22 = .ok (.aload_n 0, 1) := by decide +kernel
theorem dX4_ways_23 : decode cX4_ways 23 = .ok (.getfield 131, 3) := by decide +kernel
theorem dX4_ways_26 : decode cX4_ways 26 = .ok (.iload_n 1, 1) := by decide +kernel
theorem dX4_ways_27 : decode cX4_ways 27 = .ok (.invokevirtual 152, 3) := by decide +kernel
theorem dX4_ways_30 : decode cX4_ways 30 = .ok (.ireturn, 1) := by decide +kernel
theorem dX4_nodes_0 : decode cX4_nodes 0 = .ok (.aload_n 0, 1) := by decide +kernel
theorem dX4_nodes_1 : decode cX4_nodes 1 = .ok (.getfield 50, 3) := by decide +kernel
theorem dX4_nodes_4 : decode cX4_nodes 4 = .ok (.getfield 156, 3) := by decide +kernel
theorem dX4_nodes_7 : decode cX4_nodes 7 = .ok (.ireturn, 1) := by decide +kernel
set_option maxRecDepth 20000 in
theorem ggX4_way_X1_keptCount : GoodIn wsX4_way wsX1_keptCount := goodIn_r _ [8, 9, 10, 11, 12, 13, 27, 28, 29, 30, 31, 32, 33, 34] (by decide +kernel) (by decide +kernel)
set_option maxRecDepth 20000 in
theorem gX4_way_X1_keptCount : GoodIn wsX4_way (wsV RX4 159 RX1 yX1_keptCount wsX1_keptCount) := goodIn_app (goodIn_r _ [4, 5, 6, 7] (by decide +kernel) (by decide +kernel)) ggX4_way_X1_keptCount
set_option maxRecDepth 20000 in
theorem ggX4_way_X4_memberAt : GoodIn wsX4_way wsX4_memberAt := goodIn_r _ [17] (by decide +kernel) (by decide +kernel)
set_option maxRecDepth 20000 in
theorem gX4_way_X4_memberAt : GoodIn wsX4_way (va_wsS RX4 165 yX4_memberAt wsX4_memberAt) := goodIn_app (goodIn_r _ [14, 15, 16] (by decide +kernel) (by decide +kernel)) ggX4_way_X4_memberAt
theorem dX4_way_0 : decode cX4_way 0 = .ok (.aload_n 0, 1) := by decide +kernel
theorem dX4_way_1 : decode cX4_way 1 = .ok (.getfield 72, 3) := by decide +kernel
theorem dX4_way_4 : decode cX4_way 4 = .ok (.ifCond .eq 18, 3) := by decide +kernel
theorem dX4_way_7 : decode cX4_way 7 = .ok (.iload_n 1, 1) := by decide +kernel
theorem dX4_way_8 : decode cX4_way 8 = .ok (.ifCond .lt 14, 3) := by decide +kernel
theorem dX4_way_11 : decode cX4_way 11 = .ok (.iload_n 1, 1) := by decide +kernel
theorem dX4_way_12 : decode cX4_way 12 = .ok (.aload_n 0, 1) := by decide +kernel
theorem dX4_way_13 : decode cX4_way 13 = .ok (.getfield 50, 3) := by decide +kernel
theorem dX4_way_16 : decode cX4_way 16 = .ok (.invokevirtual 159, 3) := by decide +kernel
theorem dX4_way_19 : decode cX4_way 19 = .ok (.if_icmp .lt 5, 3) := by decide +kernel
theorem dX4_way_22 : decode cX4_way 22 = .ok (.iconst (-1), 1) := by decide +kernel
theorem dX4_way_23 : decode cX4_way 23 = .ok (.ireturn, 1) := by decide +kernel
theorem dX4_way_24 : decode cX4_way 24 = .ok (.aload_n 0, 1) := by decide +kernel
theorem dX4_way_25 : decode cX4_way 25 = .ok (.getfield 50, 3) := by decide +kernel
theorem dX4_way_28 : decode cX4_way 28 = .ok (.getfield 162, 3) := by decide +kernel
theorem dX4_way_31 : decode cX4_way 31 = .ok (.iload_n 1, 1) := by decide +kernel
theorem dX4_way_32 : decode cX4_way 32 = .ok (.laload, 1) := by decide +kernel
theorem dX4_way_33 : decode cX4_way 33 = .ok (.iload_n 2, 1) := by decide +kernel
theorem dX4_way_34 : decode cX4_way 34 = .ok (.invokestatic 165, 3) := by decide +kernel
theorem dX4_way_37 : decode cX4_way 37 = .ok (.ireturn, 1) := by decide +kernel
set_option maxRecDepth 20000 in
theorem ggX4_turn_X3_addTurn : GoodIn wsX4_turn wsX3_addTurn := goodIn_r _ [6, 7, 8, 18, 19, 20, 21, 22] (by decide +kernel) (by decide +kernel)
set_option maxRecDepth 20000 in
theorem gX4_turn_X3_addTurn : GoodIn wsX4_turn (wsV RX4 168 RX3 yX3_addTurn wsX3_addTurn) := goodIn_app (goodIn_r _ [2, 3, 4, 5] (by decide +kernel) (by decide +kernel)) ggX4_turn_X3_addTurn
theorem dX4_turn_0 : decode cX4_turn 0 = .ok (.aload_n 0, 1) := by decide +kernel
theorem dX4_turn_1 : decode cX4_turn 1 = .ok (.getfield 43, 3) := by decide +kernel
theorem dX4_turn_4 : decode cX4_turn 4 = .ok (.invokevirtual 168, 3) := by decide +kernel
theorem dX4_turn_7 : decode cX4_turn 7 = .ok (.ireturn, 1) := by decide +kernel
set_option maxRecDepth 20000 in
theorem ggX4_exchange_X4_requireColumn : GoodIn wsX4_exchange wsX4_requireColumn := goodIn_r _ [10, 11, 12, 3, 4, 5, 19, 20, 21, 22, 23, 24, 25, 26, 27, 39, 40, 41, 42, 43, 44, 45, 46, 33, 34, 35, 36, 37, 38] (by decide +kernel) (by decide +kernel)
set_option maxRecDepth 20000 in
theorem gX4_exchange_X4_requireColumn : GoodIn wsX4_exchange (wsV RX4 57 RX4 yX4_requireColumn wsX4_requireColumn) := goodIn_app (goodIn_r _ [6, 7, 8, 9] (by decide +kernel) (by decide +kernel)) ggX4_exchange_X4_requireColumn
set_option maxRecDepth 20000 in
theorem ggX4_exchange_X3_swapTargets : GoodIn wsX4_exchange wsX3_swapTargets := goodIn_r _ [17, 18, 28, 29, 30, 31, 32] (by decide +kernel) (by decide +kernel)
set_option maxRecDepth 20000 in
theorem gX4_exchange_X3_swapTargets : GoodIn wsX4_exchange (wsV RX4 179 RX3 yX3_swapTargets wsX3_swapTargets) := goodIn_app (goodIn_r _ [13, 14, 15, 16] (by decide +kernel) (by decide +kernel)) ggX4_exchange_X3_swapTargets
theorem dX4_exchange_0 : decode cX4_exchange 0 = .ok (.iload_n 1, 1) := by decide +kernel
theorem dX4_exchange_1 : decode cX4_exchange 1 = .ok (.ifCond .lt 14, 3) := by decide +kernel
theorem dX4_exchange_4 : decode cX4_exchange 4 = .ok (.iload_n 1, 1) := by decide +kernel
theorem dX4_exchange_5 : decode cX4_exchange 5 = .ok (.aload_n 0, 1) := by decide +kernel
theorem dX4_exchange_6 : decode cX4_exchange 6 = .ok (.getfield 43, 3) := by decide +kernel
theorem dX4_exchange_9 : decode cX4_exchange 9 = .ok (.getfield 171, 3) := by decide +kernel
theorem dX4_exchange_12 : decode cX4_exchange 12 = .ok (.if_icmp .lt 13, 3) := by decide +kernel
theorem dX4_exchange_15 : decode cX4_exchange 15 = .ok (.new 174, 3) := by decide +kernel
theorem dX4_exchange_18 : decode cX4_exchange 18 = .ok (.dup, 1) := by decide +kernel
theorem dX4_exchange_19 : decode cX4_exchange 19 = .ok (.ldc 176, 2) := by decide +kernel
theorem dX4_exchange_21 : decode cX4_exchange 21 = .ok (.invokespecial 178, 3) := by decide +kernel
theorem dX4_exchange_24 : decode cX4_exchange 24 = .ok (.athrow, 1) := by decide +kernel
theorem dX4_exchange_25 : decode cX4_exchange 25 = .ok (.aload_n 0, 1) := by decide +kernel
theorem dX4_exchange_26 : decode cX4_exchange 26 = .ok (.iload_n 2, 1) := by decide +kernel
theorem dX4_exchange_27 : decode cX4_exchange 27 = .ok (.invokevirtual 57, 3) := by decide +kernel
theorem dX4_exchange_30 : decode cX4_exchange 30 = .ok (.aload_n 0, 1) := by decide +kernel
theorem dX4_exchange_31 : decode cX4_exchange 31 = .ok (.iload_n 3, 1) := by decide +kernel
theorem dX4_exchange_32 : decode cX4_exchange 32 = .ok (.invokevirtual 57, 3) := by decide +kernel
theorem dX4_exchange_35 : decode cX4_exchange 35 = .ok (.iload_n 2, 1) := by decide +kernel
theorem dX4_exchange_36 : decode cX4_exchange 36 = .ok (.iload_n 3, 1) := by decide +kernel
theorem dX4_exchange_37 : decode cX4_exchange 37 = .ok (.if_icmp .ne 5, 3) := by decide +kernel
theorem dX4_exchange_40 : decode cX4_exchange 40 = .ok (.iconst 0, 1) := by decide +kernel
theorem dX4_exchange_41 : decode cX4_exchange 41 = .ok (.ireturn, 1) := by decide +kernel
theorem dX4_exchange_42 : decode cX4_exchange 42 = .ok (.aload_n 0, 1) := by decide +kernel
theorem dX4_exchange_43 : decode cX4_exchange 43 = .ok (.getfield 43, 3) := by decide +kernel
theorem dX4_exchange_46 : decode cX4_exchange 46 = .ok (.iload_n 1, 1) := by decide +kernel
theorem dX4_exchange_47 : decode cX4_exchange 47 = .ok (.iload_n 2, 1) := by decide +kernel
theorem dX4_exchange_48 : decode cX4_exchange 48 = .ok (.iload_n 3, 1) := by decide +kernel
theorem dX4_exchange_49 : decode cX4_exchange 49 = .ok (.invokevirtual 179, 3) := by decide +kernel
theorem dX4_exchange_52 : decode cX4_exchange 52 = .ok (.iconst 1, 1) := by decide +kernel
theorem dX4_exchange_53 : decode cX4_exchange 53 = .ok (.ireturn, 1) := by decide +kernel
set_option maxRecDepth 20000 in
theorem ggX4_classes_X2_hasAlikeRows : GoodIn wsX4_classes wsX2_hasAlikeRows := goodIn_r _ [9, 10, 11, 12, 13, 14, 8, 15, 16, 17, 158, 159, 160, 161, 162, 163, 164, 165] (by decide +kernel) (by decide +kernel)
set_option maxRecDepth 20000 in
theorem gX4_classes_X2_hasAlikeRows : GoodIn wsX4_classes (wsV RX4 182 RX2 yX2_hasAlikeRows wsX2_hasAlikeRows) := goodIn_app (goodIn_r _ [5, 6, 7, 8] (by decide +kernel) (by decide +kernel)) ggX4_classes_X2_hasAlikeRows
set_option maxRecDepth 20000 in
theorem ggX4_classes_X3_keepTable : GoodIn wsX4_classes wsX3_keepTable := goodIn_r _ [22, 23, 24, 25, 26, 21, 27, 28, 29, 30, 31, 32, 33, 34, 35, 36, 37, 38, 39, 40, 41, 42, 43, 44, 45, 46, 47, 166, 167, 168, 169, 170, 158, 159, 160, 161, 162, 163, 164, 165] (by decide +kernel) (by decide +kernel)
set_option maxRecDepth 20000 in
theorem gX4_classes_X3_keepTable : GoodIn wsX4_classes (wsV RX4 185 RX3 yX3_keepTable wsX3_keepTable) := goodIn_app (goodIn_r _ [18, 19, 20, 21] (by decide +kernel) (by decide +kernel)) ggX4_classes_X3_keepTable
set_option maxRecDepth 20000 in
theorem ggX4_classes_X1_run : GoodIn wsX4_classes wsX1_run := goodIn_r _ [52, 53, 54, 55, 56, 57, 58, 59, 60, 61, 62, 63, 64, 8, 65, 66, 10, 67, 68, 69, 70, 71, 72, 73, 74, 75, 76, 77, 78, 79, 80, 81, 82, 83, 84, 85, 86, 87, 88, 89, 16, 90, 91, 92, 93, 94, 51, 95, 96, 97, 98, 99, 100, 101, 102, 103, 104, 105, 106, 107, 108, 109, 110, 111, 112, 113, 114, 115, 116, 117, 118, 119, 120, 121, 122, 123, 124, 150, 151, 152, 153, 154, 155, 156, 157, 158, 159, 160, 161, 162, 163, 164, 165] (by decide +kernel) (by decide +kernel)
set_option maxRecDepth 20000 in
theorem gX4_classes_X1_run : GoodIn wsX4_classes (wsV RX4 152 RX1 yX1_run wsX1_run) := goodIn_app (goodIn_r _ [48, 49, 50, 51] (by decide +kernel) (by decide +kernel)) ggX4_classes_X1_run
set_option maxRecDepth 20000 in
theorem ggX4_classes_X3_countClasses : GoodIn wsX4_classes wsX3_countClasses := goodIn_r _ [128, 129, 23, 130, 131, 132, 21, 133, 28, 36, 37, 134, 135, 136, 137, 138, 139, 140, 166, 167, 168, 169, 170, 158, 159, 160, 161, 162, 163, 164, 165] (by decide +kernel) (by decide +kernel)
set_option maxRecDepth 20000 in
theorem gX4_classes_X3_countClasses : GoodIn wsX4_classes (wsV RX4 188 RX3 yX3_countClasses wsX3_countClasses) := goodIn_app (goodIn_r _ [125, 126, 127, 21] (by decide +kernel) (by decide +kernel)) ggX4_classes_X3_countClasses
theorem dX4_classes_0 : decode cX4_classes 0 = .ok (.aload_n 0, 1) := by decide +kernel
theorem dX4_classes_1 : decode cX4_classes 1 = .ok (.getfield 27, 3) := by decide +kernel
theorem dX4_classes_4 : decode cX4_classes 4 = .ok (.invokevirtual 182, 3) := by decide +kernel
theorem dX4_classes_7 : decode cX4_classes 7 = .ok (.ifCond .ne 13, 3) := by decide +kernel
theorem dX4_classes_10 : decode cX4_classes 10 = .ok (.aload_n 0, 1) := by decide +kernel
theorem dX4_classes_11 : decode cX4_classes 11 = .ok (.getfield 43, 3) := by decide +kernel
theorem dX4_classes_14 : decode cX4_classes 14 = .ok (.invokevirtual 185, 3) := by decide +kernel
theorem dX4_classes_17 : decode cX4_classes 17 = .ok (.ifCond .ne 5, 3) := by decide +kernel
theorem dX4_classes_20 : decode cX4_classes 20 = .ok (.iconst (-1), 1) := by decide +kernel
theorem dX4_classes_21 : decode cX4_classes 21 = .ok (.ireturn, 1) := by decide +kernel
theorem dX4_classes_22 : decode cX4_classes 22 = .ok (.aload_n 0, 1) := by decide +kernel
theorem dX4_classes_23 : decode cX4_classes 23 = .ok (.getfield 54, 3) := by decide +kernel
theorem dX4_classes_26 : decode cX4_classes 26 = .ok (.lconst 0, 1) := by decide +kernel
theorem dX4_classes_27 : decode cX4_classes 27 = .ok (.bipush 101, 2) := by decide +kernel
theorem dX4_classes_29 : decode cX4_classes 29 = .ok (.invokevirtual 152, 3) := by decide +kernel
theorem dX4_classes_32 : decode cX4_classes 32 = .ok (.istore_n 1, 1) := by decide +kernel
theorem dX4_classes_33 : decode cX4_classes 33 = .ok (.iload_n 1, 1) := by decide +kernel
theorem dX4_classes_34 : decode cX4_classes 34 = .ok (.ifCond .lt 9, 3) := by decide +kernel
theorem dX4_classes_37 : decode cX4_classes 37 = .ok (.iload_n 1, 1) := by decide +kernel
theorem dX4_classes_38 : decode cX4_classes 38 = .ok (.bipush 100, 2) := by decide +kernel
theorem dX4_classes_40 : decode cX4_classes 40 = .ok (.if_icmp .le 6, 3) := by decide +kernel
theorem dX4_classes_43 : decode cX4_classes 43 = .ok (.bipush (-2), 2) := by decide +kernel
theorem dX4_classes_45 : decode cX4_classes 45 = .ok (.ireturn, 1) := by decide +kernel
theorem dX4_classes_46 : decode cX4_classes 46 = .ok (.aload_n 0, 1) := by decide +kernel
theorem dX4_classes_47 : decode cX4_classes 47 = .ok (.getfield 43, 3) := by decide +kernel
theorem dX4_classes_50 : decode cX4_classes 50 = .ok (.aload_n 0, 1) := by decide +kernel
theorem dX4_classes_51 : decode cX4_classes 51 = .ok (.getfield 54, 3) := by decide +kernel
theorem dX4_classes_54 : decode cX4_classes 54 = .ok (.getfield 162, 3) := by decide +kernel
theorem dX4_classes_57 : decode cX4_classes 57 = .ok (.iload_n 1, 1) := by decide +kernel
theorem dX4_classes_58 : decode cX4_classes 58 = .ok (.invokevirtual 188, 3) := by decide +kernel
theorem dX4_classes_61 : decode cX4_classes 61 = .ok (.ireturn, 1) := by decide +kernel
set_option maxRecDepth 20000 in
theorem ggX4_tell_X4_requireRow : GoodIn wsX4_tell wsX4_requireRow := goodIn_r _ [7, 1, 8, 9, 10, 11, 22, 23, 24, 25, 26, 27, 28, 29, 30, 31, 32, 33, 34, 35, 36, 37, 38, 39, 40, 41, 42, 43, 44] (by decide +kernel) (by decide +kernel)
set_option maxRecDepth 20000 in
theorem gX4_tell_X4_requireRow : GoodIn wsX4_tell (wsV RX4 128 RX4 yX4_requireRow wsX4_requireRow) := goodIn_app (goodIn_r _ [3, 4, 5, 6] (by decide +kernel) (by decide +kernel)) ggX4_tell_X4_requireRow
set_option maxRecDepth 20000 in
theorem ggX4_tell_J6_bitCount_0f7a4 : GoodIn wsX4_tell wsJ6_bitCount_0f7a4 := goodIn_r _ [15, 16, 17, 18] (by decide +kernel) (by decide +kernel)
set_option maxRecDepth 20000 in
theorem gX4_tell_J6_bitCount_0f7a4 : GoodIn wsX4_tell (va_wsS RX4 195 yJ6_bitCount_0f7a4 wsJ6_bitCount_0f7a4) := goodIn_app (goodIn_r _ [12, 13, 14] (by decide +kernel) (by decide +kernel)) ggX4_tell_J6_bitCount_0f7a4
