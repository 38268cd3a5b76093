theorem dX5_take_28 : decode cX5_take 28 = .ok (.iload_n 1, 1) := by decide +kernel
theorem dX5_take_29 : decode cX5_take 29 = .ok (.invokevirtual 149, 3) := by decide +kernel
theorem dX5_take_32 : decode cX5_take 32 = .ok (.ifCond .ne 5, 3) := by decide +kernel
theorem dX5_take_35 : decode cX5_take 35 = .ok (.iconst 0, 1) := by decide +kernel
theorem dX5_take_36 : decode cX5_take 36 = .ok (.ireturn, 1) := by decide +kernel
theorem dX5_take_37 : decode cX5_take 37 = .ok (.aload_n 0, 1) := by decide +kernel
theorem dX5_take_38 : decode cX5_take 38 = .ok (.getfield 25, 3) := by decide +kernel
theorem dX5_take_41 : decode cX5_take 41 = .ok (.aload_n 0, 1) := by decide +kernel
theorem dX5_take_42 : decode cX5_take 42 = .ok (.getfield 87, 3) := by decide +kernel
theorem dX5_take_45 : decode cX5_take 45 = .ok (.iload_n 1, 1) := by decide +kernel
theorem dX5_take_46 : decode cX5_take 46 = .ok (.iastore, 1) := by decide +kernel
theorem dX5_take_47 : decode cX5_take 47 = .ok (.aload_n 0, 1) := by decide +kernel
theorem dX5_take_48 : decode cX5_take 48 = .ok (.dup, 1) := by decide +kernel
theorem dX5_take_49 : decode cX5_take 49 = .ok (.getfield 87, 3) := by decide +kernel
theorem dX5_take_52 : decode cX5_take 52 = .ok (.iconst 1, 1) := by decide +kernel
theorem dX5_take_53 : decode cX5_take 53 = .ok (.iadd, 1) := by decide +kernel
theorem dX5_take_54 : decode cX5_take 54 = .ok (.putfield 87, 3) := by decide +kernel
theorem dX5_take_57 : decode cX5_take 57 = .ok (.aload_n 0, 1) := by decide +kernel
theorem dX5_take_58 : decode cX5_take 58 = .ok (.iconst 0, 1) := by decide +kernel
theorem dX5_take_59 : decode cX5_take 59 = .ok (.putfield 90, 3) := by decide +kernel
theorem dX5_take_62 : decode cX5_take 62 = .ok (.iconst 1, 1) := by decide +kernel
theorem dX5_take_63 : decode cX5_take 63 = .ok (.ireturn, 1) := by decide +kernel
theorem dX5_untake_0 : decode cX5_untake 0 = .ok (.aload_n 0, 1) := by decide +kernel
theorem dX5_untake_1 : decode cX5_untake 1 = .ok (.iconst 0, 1) := by decide +kernel
theorem dX5_untake_2 : decode cX5_untake 2 = .ok (.putfield 73, 3) := by decide +kernel
theorem dX5_untake_5 : decode cX5_untake 5 = .ok (.aload_n 0, 1) := by decide +kernel
theorem dX5_untake_6 : decode cX5_untake 6 = .ok (.getfield 87, 3) := by decide +kernel
theorem dX5_untake_9 : decode cX5_untake 9 = .ok (.ifCond .ne 5, 3) := by decide +kernel
theorem dX5_untake_12 : decode cX5_untake 12 = .ok (.iconst (-1), 1) := by decide +kernel
theorem dX5_untake_13 : decode cX5_untake 13 = .ok (.ireturn, 1) := by decide +kernel
theorem dX5_untake_14 : decode cX5_untake 14 = .ok (.aload_n 0, 1) := by decide +kernel
theorem dX5_untake_15 : decode cX5_untake 15 = .ok (.dup, 1) := by decide +kernel
theorem dX5_untake_16 : decode cX5_untake 16 = .ok (.getfield 87, 3) := by decide +kernel
theorem dX5_untake_19 : decode cX5_untake 19 = .ok (.iconst 1, 1) := by decide +kernel
theorem dX5_untake_20 : decode cX5_untake 20 = .ok (.isub, 1) := by decide +kernel
theorem dX5_untake_21 : decode cX5_untake 21 = .ok (.putfield 87, 3) := by decide +kernel
theorem dX5_untake_24 : decode cX5_untake 24 = .ok (.aload_n 0, 1) := by decide +kernel
theorem dX5_untake_25 : decode cX5_untake 25 = .ok (.iconst 0, 1) := by decide +kernel
theorem dX5_untake_26 : decode cX5_untake 26 = .ok (.putfield 90, 3) := by decide +kernel
theorem dX5_untake_29 : decode cX5_untake 29 = .ok (.aload_n 0, 1) := by decide +kernel
theorem dX5_untake_30 : decode cX5_untake 30 = .ok (.getfield 25, 3) := by decide +kernel
theorem dX5_untake_33 : decode cX5_untake 33 = .ok (.aload_n 0, 1) := by decide +kernel
theorem dX5_untake_34 : decode cX5_untake 34 = .ok (.getfield 87, 3) := by decide +kernel
theorem dX5_untake_37 : decode cX5_untake 37 = .ok (.iaload, 1) := by decide +kernel
theorem dX5_untake_38 : decode cX5_untake 38 = .ok (.ireturn, 1) := by decide +kernel
set_option maxRecDepth 20000 in
theorem ggX5_open_X5_isColumn : GoodIn wsX5_open wsX5_isColumn := goodIn_r _ [6, 7, 47, 48, 49, 50, 51, 52, 53, 54, 55, 56, 57, 58, 59, 60, 61, 62, 63, 64, 65, 66, 67, 68, 69, 70, 71, 72, 73, 74, 75, 76, 77, 78, 79] (by decide +kernel) (by decide +kernel)
set_option maxRecDepth 20000 in
theorem gX5_open_X5_isColumn : GoodIn wsX5_open (wsV RX5 79 RX5 yX5_isColumn wsX5_isColumn) := goodIn_app (goodIn_r _ [2, 3, 4, 5] (by decide +kernel) (by decide +kernel)) ggX5_open_X5_isColumn
set_option maxRecDepth 20000 in
theorem ggX5_open_X5_throwsIf : GoodIn wsX5_open wsX5_throwsIf := goodIn_r _ [11, 12, 47, 48, 49, 50, 51, 52, 53, 54, 55, 56, 57, 58, 59, 60, 61, 62, 63, 64, 65, 66, 67, 68, 69, 70, 71, 72, 73, 74, 75, 76, 77, 78, 79] (by decide +kernel) (by decide +kernel)
set_option maxRecDepth 20000 in
theorem gX5_open_X5_throwsIf : GoodIn wsX5_open (wsV RX5 83 RX5 yX5_throwsIf wsX5_throwsIf) := goodIn_app (goodIn_r _ [8, 9, 10, 5] (by decide +kernel) (by decide +kernel)) ggX5_open_X5_throwsIf
set_option maxRecDepth 20000 in
theorem ggX5_open_X5_begin : GoodIn wsX5_open wsX5_begin := goodIn_r _ [16, 17, 18, 19, 20, 21, 22, 23, 24, 5, 25, 7, 26, 27, 28, 29, 30, 31, 32, 47, 48, 49, 50, 51, 52, 53, 54, 55, 56, 57, 58, 59, 60, 61, 62, 63, 64, 65, 66, 67, 68, 69, 70, 71, 72, 73, 74, 75, 76, 77, 78, 79] (by decide +kernel) (by decide +kernel)
set_option maxRecDepth 20000 in
theorem gX5_open_X5_begin : GoodIn wsX5_open (wsV RX5 146 RX5 yX5_begin wsX5_begin) := goodIn_app (goodIn_r _ [13, 14, 15, 5] (by decide +kernel) (by decide +kernel)) ggX5_open_X5_begin
set_option maxRecDepth 20000 in
theorem ggX5_open_X5_has : GoodIn wsX5_open wsX5_has := goodIn_r _ [31, 32, 47, 48, 49, 50, 51, 52, 53, 54, 55, 56, 57, 58, 59, 60, 61, 62, 63, 64, 65, 66, 67, 68, 69, 70, 71, 72, 73, 74, 75, 76, 77, 78, 79] (by decide +kernel) (by decide +kernel)
set_option maxRecDepth 20000 in
theorem gX5_open_X5_has : GoodIn wsX5_open (wsV RX5 97 RX5 yX5_has wsX5_has) := goodIn_app (goodIn_r _ [28, 29, 30, 5] (by decide +kernel) (by decide +kernel)) ggX5_open_X5_has
set_option maxRecDepth 20000 in
theorem ggX5_open_X5_isOpen : GoodIn wsX5_open wsX5_isOpen := goodIn_r _ [36, 17, 37, 38, 39, 5, 40, 32, 41, 42, 43, 44, 45, 7, 27, 19, 46, 26, 28, 29, 30, 31, 47, 48, 49, 50, 51, 52, 53, 54, 55, 56, 57, 58, 59, 60, 61, 62, 63, 64, 65, 66, 67, 68, 69, 70, 71, 72, 73, 74, 75, 76, 77, 78, 79] (by decide +kernel) (by decide +kernel)
set_option maxRecDepth 20000 in
theorem gX5_open_X5_isOpen : GoodIn wsX5_open (wsV RX5 149 RX5 yX5_isOpen wsX5_isOpen) := goodIn_app (goodIn_r _ [33, 34, 35, 5] (by decide +kernel) (by decide +kernel)) ggX5_open_X5_isOpen
theorem dX5_open_0 : decode cX5_open 0 = .ok (.aload_n 0, 1) := by decide +kernel
theorem dX5_open_1 : decode cX5_open 1 = .ok (.iconst 1, 1) := by decide +kernel
theorem dX5_open_2 : decode cX5_open 2 = .ok (.aload_n 0, 1) := by decide +kernel
theorem dX5_open_3 : decode cX5_open 3 = .ok (.iload_n 1, 1) := by decide +kernel
theorem dX5_open_4 : decode cX5_open 4 = .ok (.invokevirtual 79, 3) := by decide +kernel
theorem dX5_open_7 : decode cX5_open 7 = .ok (.ifCond .ne 7, 3) := by decide +kernel
theorem dX5_open_10 : decode cX5_open 10 = .ok (.iconst 1, 1) := by decide +kernel
theorem dX5_open_11 : decode cX5_open 11 = .ok (.goto 4, 3) := by decide +kernel
theorem dX5_open_14 : decode cX5_open 14 = .ok (.iconst 0, 1) := by decide +kernel
theorem dX5_open_15 : decode cX5_open 15 = .ok (.invokevirtual 83, 3) := by decide +kernel
theorem dX5_open_18 : decode cX5_open 18 = .ok (.ifCond .eq 5, 3) := by decide +kernel
theorem dX5_open_21 : decode cX5_open 21 = .ok (.iconst 0, 1) := by decide +kernel
theorem dX5_open_22 : decode cX5_open 22 = .ok (.ireturn, 1) := by decide +kernel
theorem dX5_open_23 : decode cX5_open 23 = .ok (.aload_n 0, 1) := by decide +kernel
theorem dX5_open_24 : decode cX5_open 24 = .ok (.invokevirtual 146, 3) := by decide +kernel
theorem dX5_open_27 : decode cX5_open 27 = .ok (.iconst 0, 1) := by decide +kernel
theorem dX5_open_28 : decode cX5_open 28 = .ok (.istore_n 2, 1) := by decide +kernel
theorem dX5_open_29 : decode cX5_open 29 = .ok (.iconst 0, 1) := by decide +kernel
theorem dX5_open_30 : decode cX5_open 30 = .ok (.istore_n 3, 1) := by decide +kernel
theorem dX5_open_31 : decode cX5_open 31 = .ok (.iload_n 3, 1) := by decide +kernel
theorem dX5_open_32 : decode cX5_open 32 = .ok (.aload_n 0, 1) := by decide +kernel
theorem dX5_open_33 : decode cX5_open 33 = .ok (.getfield 76, 3) := by decide +kernel
theorem dX5_open_36 : decode cX5_open 36 = .ok (.if_icmp .ge 34, 3) := by decide +kernel
theorem dX5_open_39 : decode cX5_open 39 = .ok (.iload_n 2, 1) := by decide +kernel
theorem dX5_open_40 : decode cX5_open 40 = .ok (.aload_n 0, 1) := by decide +kernel
theorem dX5_open_41 : decode cX5_open 41 = .ok (.iload_n 3, 1) := by decide +kernel
theorem dX5_open_42 : decode cX5_open 42 = .ok (.iload_n 1, 1) := by decide +kernel
theorem dX5_open_43 : decode cX5_open 43 = .ok (.invokevirtual 97, 3) := by decide +kernel
theorem dX5_open_46 : decode cX5_open 46 = .ok (.ifCond .eq 15, 3) := by decide +kernel
theorem dX5_open_49 : decode cX5_open 49 = .ok (.aload_n 0, 1) := by decide +kernel
theorem dX5_open_50 : decode cX5_open 50 = .ok (.iload_n 3, 1) := by decide +kernel
theorem dX5_open_51 : decode cX5_open 51 = .ok (.invokevirtual 149, 3) := by decide +kernel
theorem dX5_open_54 : decode cX5_open 54 = .ok (.ifCond .eq 7, 3) := by decide +kernel
theorem dX5_open_57 : decode cX5_open 57 = .ok (.iconst 1, 1) := by decide +kernel
theorem dX5_open_58 : decode cX5_open 58 = .ok (.goto 4, 3) := by decide +kernel
theorem dX5_open_61 : decode cX5_open 61 = .ok (.iconst 0, 1) := by decide +kernel
theorem dX5_open_62 : decode cX5_open 62 = .ok (.iadd, 1) := by decide +kernel
theorem dX5_open_63 : decode cX5_open 63 = .ok (.istore_n 2, 1) := by decide +kernel
theorem dX5_open_64 : decode cX5_open 64 = .ok (.iinc 3 1, 3) := by decide +kernel
theorem dX5_open_67 : decode cX5_open 67 = .ok (.goto (-36), 3) := by decide +kernel
theorem dX5_open_70 : decode cX5_open 70 = .ok (.iload_n 2, 1) := by decide +kernel
theorem dX5_open_71 : decode cX5_open 71 = .ok (.ireturn, 1) := by decide +kernel
set_option maxRecDepth 20000 in
theorem ggX5_isCandidate_X5_has : GoodIn wsX5_isCandidate wsX5_has := goodIn_r _ [7, 8, 19, 20, 21, 22, 23, 24, 25, 26, 27, 28, 29, 30, 31, 32, 33, 34, 35, 36, 37, 38, 39, 40, 41, 42, 43, 44, 45, 46, 47, 48, 49, 50, 51] (by decide +kernel) (by decide +kernel)
set_option maxRecDepth 20000 in
theorem gX5_isCandidate_X5_has : GoodIn wsX5_isCandidate (wsV RX5 97 RX5 yX5_has wsX5_has) := goodIn_app (goodIn_r _ [3, 4, 5, 6] (by decide +kernel) (by decide +kernel)) ggX5_isCandidate_X5_has
set_option maxRecDepth 20000 in
theorem ggX5_isCandidate_X5_fits : GoodIn wsX5_isCandidate wsX5_fits := goodIn_r _ [12, 13, 14, 15, 16, 17, 18, 3, 4, 5, 6, 7, 8, 19, 20, 21, 22, 23, 24, 25, 26, 27, 28, 29, 30, 31, 32, 33, 34, 35, 36, 37, 38, 39, 40, 41, 42, 43, 44, 45, 46, 47, 48, 49, 50, 51] (by decide +kernel) (by decide +kernel)
set_option maxRecDepth 20000 in
theorem gX5_isCandidate_X5_fits : GoodIn wsX5_isCandidate (wsV RX5 140 RX5 yX5_fits wsX5_fits) := goodIn_app (goodIn_r _ [9, 10, 11, 6] (by decide +kernel) (by decide +kernel)) ggX5_isCandidate_X5_fits
theorem dX5_isCandidate_0 : decode cX5_isCandidate 0 = .ok (.aload_n 0, 1) := by decide +kernel
theorem dX5_isCandidate_1 : decode cX5_isCandidate 1 = .ok (.iload_n 1, 1) := by decide +kernel
theorem dX5_isCandidate_2 : decode cX5_isCandidate 2 = .ok (.iload_n 2, 1) := by decide +kernel
theorem dX5_isCandidate_3 : decode cX5_isCandidate 3 = .ok (.invokevirtual 97, 3) := by decide +kernel
theorem dX5_isCandidate_6 : decode cX5_isCandidate 6 = .ok (.ifCond .eq 33, 3) := by decide +kernel
theorem dX5_isCandidate_9 : decode cX5_isCandidate 9 = .ok (.aload_n 0, 1) := by decide +kernel
theorem dX5_isCandidate_10 : decode cX5_isCandidate 10 = .ok (.getfield 31, 3) := by decide +kernel
theorem dX5_isCandidate_13 : decode cX5_isCandidate 13 = .ok (.iload_n 1, 1) := by decide +kernel
theorem dX5_isCandidate_14 : decode cX5_isCandidate 14 = .ok (.baload, 1) := by decide +kernel
theorem dX5_isCandidate_15 : decode cX5_isCandidate 15 = .ok (.ifCond .ne 24, 3) := by decide +kernel
theorem dX5_isCandidate_18 : decode cX5_isCandidate 18 = .ok (.aload_n 0, 1) := by decide +kernel
theorem dX5_isCandidate_19 : decode cX5_isCandidate 19 = .ok (.getfield 41, 3) := by decide +kernel
theorem dX5_isCandidate_22 : decode cX5_isCandidate 22 = .ok (.iload_n 1, 1) := by decide +kernel
theorem dX5_isCandidate_23 : decode cX5_isCandidate 23 = .ok (.iaload, 1) := by decide +kernel
theorem dX5_isCandidate_24 : decode cX5_isCandidate 24 = .ok (.ifCond .ge 15, 3) := by decide +kernel
theorem dX5_isCandidate_27 : decode cX5_isCandidate 27 = .ok (.aload_n 0, 1) := by decide +kernel
theorem dX5_isCandidate_28 : decode cX5_isCandidate 28 = .ok (.iload_n 1, 1) := by decide +kernel
theorem dX5_isCandidate_29 : decode cX5_isCandidate 29 = .ok (.invokevirtual 140, 3) := by decide +kernel
theorem dX5_isCandidate_32 : decode cX5_isCandidate 32 = .ok (.ifCond .eq 7, 3) := by decide +kernel
theorem dX5_isCandidate_35 : decode cX5_isCandidate 35 = .ok (.iconst 1, 1) := by decide +kernel
theorem dX5_isCandidate_36 : decode cX5_isCandidate 36 = .ok (.goto 4, 3) := by decide +kernel
theorem dX5_isCandidate_39 : decode cX5_isCandidate 39 = .ok (.iconst 0, 1) := by decide +kernel
theorem dX5_isCandidate_40 : decode cX5_isCandidate 40 = .ok (.ireturn, 1) := by decide +kernel
set_option maxRecDepth 20000 in
theorem ggX5_candidates_X5_isCandidate : GoodIn wsX5_candidates wsX5_isCandidate := goodIn_r _ [6, 7, 8, 9, 10, 11, 5, 12, 13, 14, 15, 16, 17, 18, 19, 20, 21, 22, 23, 24, 25, 26, 27, 28, 29, 30, 31, 32, 33, 34, 35, 36, 37, 38, 39, 40, 41, 42, 43, 44, 45, 46, 47, 48, 49, 50, 51, 52, 53, 54, 55, 56] (by decide +kernel) (by decide +kernel)
set_option maxRecDepth 20000 in
theorem gX5_candidates_X5_isCandidate : GoodIn wsX5_candidates (wsV RX5 152 RX5 yX5_isCandidate wsX5_isCandidate) := goodIn_app (goodIn_r _ [2, 3, 4, 5] (by decide +kernel) (by decide +kernel)) ggX5_candidates_X5_isCandidate
theorem dX5_candidates_0 : decode cX5_candidates 0 = .ok (.iconst 0, 1) := by decide +kernel
theorem dX5_candidates_1 : decode cX5_candidates 1 = .ok (.istore_n 2, 1) := by decide +kernel
theorem dX5_candidates_2 : decode cX5_candidates 2 = .ok (.iconst 0, 1) := by decide +kernel
theorem dX5_candidates_3 : decode cX5_candidates 3 = .ok (.istore_n 3, 1) := by decide +kernel
theorem dX5_candidates_4 : decode cX5_candidates 4 = .ok (.iload_n 3, 1) := by decide +kernel
theorem dX5_candidates_5 : decode cX5_candidates 5 = .ok (.aload_n 0, 1) := by decide +kernel
theorem dX5_candidates_6 : decode cX5_candidates 6 = .ok (.getfield 76, 3) := by decide +kernel
theorem dX5_candidates_9 : decode cX5_candidates 9 = .ok (.if_icmp .ge 26, 3) := by decide +kernel
theorem dX5_candidates_12 : decode cX5_candidates 12 = .ok (.iload_n 2, 1) := by decide +kernel
theorem dX5_candidates_13 : decode cX5_candidates 13 = .ok (.aload_n 0, 1) := by decide +kernel
theorem dX5_candidates_14 : decode cX5_candidates 14 = .ok (.iload_n 3, 1) := by decide +kernel
theorem dX5_candidates_15 : decode cX5_candidates 15 = .ok (.iload_n 1, 1) := by decide +kernel
theorem dX5_candidates_16 : decode cX5_candidates 16 = .ok (.invokevirtual 152, 3) := by decide +kernel
theorem dX5_candidates_19 : decode cX5_candidates 19 = .ok (.ifCond .eq 7, 3) := by decide +kernel
theorem dX5_candidates_22 : decode cX5_candidates 22 = .ok (.iconst 1, 1) := by decide +kernel
theorem dX5_candidates_23 : decode cX5_candidates 23 = .ok (.goto 4, 3) := by decide +kernel
theorem dX5_candidates_26 : decode cX5_candidates 26 = .ok (.iconst 0, 1) := by decide +kernel
theorem dX5_candidates_27 : decode cX5_candidates 27 = .ok (.iadd, 1) := by decide +kernel
theorem dX5_candidates_28 : decode cX5_candidates 28 = .ok (.istore_n 2, 1) := by decide +kernel
theorem dX5_candidates_29 : decode cX5_candidates 29 = .ok (.iinc 3 1, 3) := by decide +kernel
theorem dX5_candidates_32 : decode cX5_candidates 32 = .ok (.goto (-28), 3) := by decide +kernel
theorem dX5_candidates_35 : decode cX5_candidates 35 = .ok (.iload_n 2, 1) := by decide +kernel
theorem dX5_candidates_36 : decode cX5_candidates 36 = .ok (.ireturn, 1) := by decide +kernel
set_option maxRecDepth 20000 in
theorem ggX5_best_X5_candidates : GoodIn wsX5_best wsX5_candidates := goodIn_r _ [8, 9, 10, 11, 12, 7, 13, 14, 15, 16, 17, 18, 19, 20, 21, 22, 23, 24, 25, 26, 1, 2, 3, 27, 28, 29, 30, 31, 32, 33, 34, 35, 36, 37, 38, 39, 40, 41, 42, 43, 44, 45, 46, 47, 48, 49, 50, 51, 52, 53, 54, 55, 56, 57, 58, 59, 60] (by decide +kernel) (by decide +kernel)
set_option maxRecDepth 20000 in
theorem gX5_best_X5_candidates : GoodIn wsX5_best (wsV RX5 155 RX5 yX5_candidates wsX5_candidates) := goodIn_app (goodIn_r _ [4, 5, 6, 7] (by decide +kernel) (by decide +kernel)) ggX5_best_X5_candidates
theorem dX5_best_0 : decode cX5_best 0 = .ok (.iconst (-1), 1) := by decide +kernel
theorem dX5_best_1 : decode cX5_best 1 = .ok (.istore_n 1, 1) := by decide +kernel
theorem dX5_best_2 : decode cX5_best 2 = .ok (.bipush 61, 2) := by decide +kernel
theorem dX5_best_4 : decode cX5_best 4 = .ok (.istore_n 2, 1) := by decide +kernel
theorem dX5_best_5 : decode cX5_best 5 = .ok (.iconst 0, 1) := by decide +kernel
theorem dX5_best_6 : decode cX5_best 6 = .ok (.istore_n 3, 1) := by decide +kernel
theorem dX5_best_7 : decode cX5_best 7 = .ok (.iload_n 3, 1) := by decide +kernel
theorem dX5_best_8 : decode cX5_best 8 = .ok (.aload_n 0, 1) := by decide +kernel
theorem dX5_best_9 : decode cX5_best 9 = .ok (.getfield 70, 3) := by decide +kernel
theorem dX5_best_12 : decode cX5_best 12 = .ok (.if_icmp .ge 48, 3) := by decide +kernel
theorem dX5_best_15 : decode cX5_best 15 = .ok (.aload_n 0, 1) := by decide +kernel
theorem dX5_best_16 : decode cX5_best 16 = .ok (.getfield 60, 3) := by decide +kernel
theorem dX5_best_19 : decode cX5_best 19 = .ok (.iload_n 3, 1) := by decide +kernel
theorem dX5_best_20 : decode cX5_best 20 = .ok (.iaload, 1) := by decide +kernel
theorem dX5_best_21 : decode cX5_best 21 = .ok (.aload_n 0, 1) := by decide +kernel
theorem dX5_best_22 : decode cX5_best 22 = .ok (.getfield 7, 3) := by decide +kernel
theorem dX5_best_25 : decode cX5_best 25 = .ok (.iload_n 3, 1) := by decide +kernel
theorem dX5_best_26 : decode cX5_best 26 = .ok (.iaload, 1) := by decide +kernel
theorem dX5_best_27 : decode cX5_best 27 = .ok (.if_icmp .ne 6, 3) := by decide +kernel
theorem dX5_best_30 : decode cX5_best 30 = .ok (.goto 24, 3) := by decide +kernel
theorem dX5_best_33 : decode cX5_best 33 = .ok (.aload_n 0, 1) := by decide +kernel
theorem dX5_best_34 : decode cX5_best 34 = .ok (.iload_n 3, 1) := by decide +kernel
theorem dX5_best_35 : decode cX5_best 35 = .ok (.invokevirtual 155, 3) := by decide +kernel
theorem dX5_best_38 : decode cX5_best 38 = .ok (.istore 4, 2) := by decide +kernel
theorem dX5_best_40 : decode cX5_best 40 = .ok (.iload 4, 2) := by decide +kernel
theorem dX5_best_42 : decode cX5_best 42 = .ok (.iload_n 2, 1) := by decide +kernel
theorem dX5_best_43 : decode cX5_best 43 = .ok (.if_icmp .lt 6, 3) := by decide +kernel
theorem dX5_best_46 : decode cX5_best 46 = .ok (.goto 8, 3) := by decide +kernel
theorem dX5_best_49 : decode cX5_best 49 = .ok (.iload_n 3, 1) := by decide +kernel
theorem dX5_best_50 : decode cX5_best 50 = .ok (.istore_n 1, 1) := by decide +kernel
theorem dX5_best_51 : decode cX5_best 51 = .ok (.iload 4, 2) := by decide +kernel
theorem dX5_best_53 : decode cX5_best 53 = .ok (.istore_n 2, 1) := by decide +kernel
theorem dX5_best_54 : decode cX5_best 54 = .ok (.iinc 3 1, 3) := by decide +kernel
theorem dX5_best_57 : decode cX5_best 57 = .ok (.goto (-50), 3) := by decide +kernel
theorem dX5_best_60 : decode cX5_best 60 = .ok (.iload_n 1, 1) := by decide +kernel
theorem dX5_best_61 : decode cX5_best 61 = .ok (.ireturn, 1) := by decide +kernel
theorem dX5_keep_0 : decode cX5_keep 0 = .ok (.aload_n 0, 1) := by decide +kernel
theorem dX5_keep_1 : decode cX5_keep 1 = .ok (.getfield 158, 3) := by decide +kernel
theorem dX5_keep_4 : decode cX5_keep 4 = .ok (.bipush 100, 2) := by decide +kernel
theorem dX5_keep_6 : decode cX5_keep 6 = .ok (.if_icmp .ge 55, 3) := by decide +kernel
theorem dX5_keep_9 : decode cX5_keep 9 = .ok (.aload_n 1, 1) := by decide +kernel
theorem dX5_keep_10 : decode cX5_keep 10 = .ok (.aload_n 0, 1) := by decide +kernel
theorem dX5_keep_11 : decode cX5_keep 11 = .ok (.getfield 158, 3) := by decide +kernel
theorem dX5_keep_14 : decode cX5_keep 14 = .ok (.lconst 0, 1) := by decide +kernel
theorem dX5_keep_15 : decode cX5_keep 15 = .ok (.lastore, 1) := by decide +kernel
theorem dX5_keep_16 : decode cX5_keep 16 = .ok (.iconst 0, 1) := by decide +kernel
theorem dX5_keep_17 : decode cX5_keep 17 = .ok (.istore_n 2, 1) := by decide +kernel
theorem dX5_keep_18 : decode cX5_keep 18 = .ok (.iload_n 2, 1) := by decide +kernel
theorem dX5_keep_19 : decode cX5_keep 19 = .ok (.aload_n 0, 1) := by decide +kernel
theorem dX5_keep_20 : decode cX5_keep 20 = .ok (.getfield 76, 3) := by decide +kernel
theorem dX5_keep_23 : decode cX5_keep 23 = .ok (.if_icmp .ge 38, 3) := by decide +kernel
theorem dX5_keep_26 : decode cX5_keep 26 = .ok (.aload_n 1, 1) := by decide +kernel
theorem dX5_keep_27 : decode cX5_keep 27 = .ok (.aload_n 0, 1) := by decide +kernel
theorem dX5_keep_28 : decode cX5_keep 28 = .ok (.getfield 158, 3) := by decide +kernel
theorem dX5_keep_31 : decode cX5_keep 31 = .ok (.aload_n 1, 1) := by decide +kernel
theorem dX5_keep_32 : decode cX5_keep 32 = .ok (.aload_n 0, 1) := by decide +kernel
theorem dX5_keep_33 : decode cX5_keep 33 = .ok (.getfield 158, 3) := by decide +kernel
theorem dX5_keep_36 : decode cX5_keep 36 = .ok (.laload, 1) := by decide +kernel
theorem dX5_keep_37 : decode cX5_keep 37 = .ok (.aload_n 0, 1) := by decide +kernel
theorem dX5_keep_38 : decode cX5_keep 38 = .ok (.getfield 31, 3) := by decide +kernel
theorem dX5_keep_41 : decode cX5_keep 41 = .ok (.iload_n 2, 1) := by decide +kernel
theorem dX5_keep_42 : decode cX5_keep 42 = .ok (.baload, 1) := by decide +kernel
theorem dX5_keep_43 : decode cX5_keep 43 = .ok (.ifCond .eq 9, 3) := by decide +kernel
theorem dX5_keep_46 : decode cX5_keep 46 = .ok (.lconst 1, 1) := by decide +kernel
theorem dX5_keep_47 : decode cX5_keep 47 = .ok (.iload_n 2, 1) := by decide +kernel
theorem dX5_keep_48 : decode cX5_keep 48 = .ok (.lshl, 1) := by decide +kernel
theorem dX5_keep_49 : decode cX5_keep 49 = .ok (.goto 4, 3) := by decide +kernel
theorem dX5_keep_52 : decode cX5_keep 52 = .ok (.lconst 0, 1) := by decide +kernel
theorem dX5_keep_53 : decode cX5_keep 53 = .ok (.lor, 1) := by decide +kernel
theorem dX5_keep_54 : decode cX5_keep 54 = .ok (.lastore, 1) := by decide +kernel
theorem dX5_keep_55 : decode cX5_keep 55 = .ok (.iinc 2 1, 3) := by decide +kernel
theorem dX5_keep_58 : decode cX5_keep 58 = .ok (.goto (-40), 3) := by decide +kernel
theorem dX5_keep_61 : decode cX5_keep 61 = .ok (.aload_n 0, 1) := by decide +kernel
theorem dX5_keep_62 : decode cX5_keep 62 = .ok (.dup, 1) := by decide +kernel
theorem dX5_keep_63 : decode cX5_keep 63 = .ok (.getfield 158, 3) := by decide +kernel
theorem dX5_keep_66 : decode cX5_keep 66 = .ok (.iconst 1, 1) := by decide +kernel
theorem dX5_keep_67 : decode cX5_keep 67 = .ok (.iadd, 1) := by decide +kernel
theorem dX5_keep_68 : decode cX5_keep 68 = .ok (.putfield 158, 3) := by decide +kernel
theorem dX5_keep_71 : decode cX5_keep 71 = .ok (.return_, 1) := by decide +kernel
set_option maxRecDepth 20000 in
theorem ggX5_arrive_X5_best : GoodIn wsX5_arrive wsX5_best := goodIn_r _ [12, 13, 14, 15, 16, 17, 18, 11, 19, 20, 21, 22, 23, 24, 25, 26, 27, 28, 29, 30, 31, 32, 33, 34, 35, 36, 37, 38, 43, 44, 45, 46, 47, 48, 49, 50, 51, 52, 53, 54, 55, 56, 57, 58, 59, 60, 61, 62, 63, 64, 65, 66, 67, 68, 69, 70, 71, 72, 73, 74, 75] (by decide +kernel) (by decide +kernel)
set_option maxRecDepth 20000 in
theorem gX5_arrive_X5_best : GoodIn wsX5_arrive (wsV RX5 172 RX5 yX5_best wsX5_best) := goodIn_app (goodIn_r _ [8, 9, 10, 11] (by decide +kernel) (by decide +kernel)) ggX5_arrive_X5_best
set_option maxRecDepth 20000 in
theorem ggX5_arrive_X5_keep : GoodIn wsX5_arrive wsX5_keep := goodIn_r _ [42, 7, 20, 25, 43, 44, 45, 46, 47, 48, 49, 50, 51, 52, 53, 54, 55, 56, 57, 58, 59, 60, 61, 62, 63, 64, 65, 66, 67, 68, 69, 70, 71, 72, 73, 74, 75] (by decide +kernel) (by decide +kernel)
set_option maxRecDepth 20000 in
theorem gX5_arrive_X5_keep : GoodIn wsX5_arrive (wsV RX5 176 RX5 yX5_keep wsX5_keep) := goodIn_app (goodIn_r _ [39, 40, 41, 11] (by decide +kernel) (by decide +kernel)) ggX5_arrive_X5_keep
theorem dX5_arrive_0 : decode cX5_arrive 0 = .ok (.aload_n 0, 1) := by decide +kernel
theorem dX5_arrive_1 : decode cX5_arrive 1 = .ok (.dup, 1) := by decide +kernel
theorem dX5_arrive_2 : decode cX5_arrive 2 = .ok (.getfield 161, 3) := by decide +kernel
theorem dX5_arrive_5 : decode cX5_arrive 5 = .ok (.iconst 1, 1) := by decide +kernel
theorem dX5_arrive_6 : decode cX5_arrive 6 = .ok (.iadd, 1) := by decide +kernel
theorem dX5_arrive_7 : decode cX5_arrive 7 = .ok (.putfield 161, 3) := by decide +kernel
theorem dX5_arrive_10 : decode cX5_arrive 10 = .ok (.aload_n 0, 1) := by decide +kernel
theorem dX5_arrive_11 : decode cX5_arrive 11 = .ok (.getfield 161, 3) := by decide +kernel
theorem dX5_arrive_14 : decode cX5_arrive 14 = .ok (.ldc 164, 2) := by decide +kernel
theorem dX5_arrive_16 : decode cX5_arrive 16 = .ok (.if_icmp .ne 10, 3) := by decide +kernel
theorem dX5_arrive_19 : decode cX5_arrive 19 = .ok (.aload_n 0, 1) := by decide +kernel
theorem dX5_arrive_20 : decode cX5_arrive 20 = .ok (.iconst 1, 1) := by decide +kernel
theorem dX5_arrive_21 : decode cX5_arrive 21 = .ok (.putfield 165, 3) := by decide +kernel
theorem dX5_arrive_24 : decode cX5_arrive 24 = .ok (.iconst 0, 1) := by decide +kernel
theorem dX5_arrive_25 : decode cX5_arrive 25 = .ok (.ireturn, 1) := by decide +kernel
theorem dX5_arrive_26 : decode cX5_arrive 26 = .ok (.aload_n 0, 1) := by decide +kernel
theorem dX5_arrive_27 : decode cX5_arrive 27 = .ok (.getfield 35, 3) := by decide +kernel
theorem dX5_arrive_30 : decode cX5_arrive 30 = .ok (.aload_n 0, 1) := by decide +kernel
theorem dX5_arrive_31 : decode cX5_arrive 31 = .ok (.getfield 169, 3) := by decide +kernel
theorem dX5_arrive_34 : decode cX5_arrive 34 = .ok (.aload_n 0, 1) := by decide +kernel
theorem dX5_arrive_35 : decode cX5_arrive 35 = .ok (.invokevirtual 172, 3) := by decide +kernel
theorem dX5_arrive_38 : decode cX5_arrive 38 = .ok (.iastore, 1) := by decide +kernel
theorem dX5_arrive_39 : decode cX5_arrive 39 = .ok (.aload_n 0, 1) := by decide +kernel
theorem dX5_arrive_40 : decode cX5_arrive 40 = .ok (.getfield 38, 3) := by decide +kernel
theorem dX5_arrive_43 : decode cX5_arrive 43 = .ok (.aload_n 0, 1) := by decide +kernel
theorem dX5_arrive_44 : decode cX5_arrive 44 = .ok (.getfield 169, 3) := by decide +kernel
theorem dX5_arrive_47 : decode cX5_arrive 47 = .ok (.iconst 0, 1) := by decide +kernel
theorem dX5_arrive_48 : decode cX5_arrive 48 = .ok (.iastore, 1) := by decide +kernel
theorem dX5_arrive_49 : decode cX5_arrive 49 = .ok (.aload_n 0, 1) := by decide +kernel
theorem dX5_arrive_50 : decode cX5_arrive 50 = .ok (.getfield 35, 3) := by decide +kernel
theorem dX5_arrive_53 : decode cX5_arrive 53 = .ok (.aload_n 0, 1) := by decide +kernel
theorem dX5_arrive_54 : decode cX5_arrive 54 = .ok (.getfield 169, 3) := by decide +kernel
theorem dX5_arrive_57 : decode cX5_arrive 57 = .ok (.iaload, 1) := by decide +kernel
theorem dX5_arrive_58 : decode cX5_arrive 58 = .ok (.ifCond .ge 8, 3) := by decide +kernel
theorem dX5_arrive_61 : decode cX5_arrive 61 = .ok (.aload_n 0, 1) := by decide +kernel
theorem dX5_arrive_62 : decode cX5_arrive 62 = .ok (.aload_n 1, 1) := by decide +kernel
theorem dX5_arrive_63 : decode cX5_arrive 63 = .ok (.invokevirtual 176, 3) := by decide +kernel
theorem dX5_arrive_66 : decode cX5_arrive 66 = .ok (.aload_n 0, 1) := by decide +kernel
theorem dX5_arrive_67 : decode cX5_arrive 67 = .ok (.getfield 158, 3) := by decide +kernel
theorem dX5_arrive_70 : decode cX5_arrive 70 = .ok (.iload_n 2, 1) := by decide +kernel
theorem dX5_arrive_71 : decode cX5_arrive 71 = .ok (.if_icmp .ge 7, 3) := by decide +kernel
theorem dX5_arrive_74 : decode cX5_arrive 74 = .ok (.iconst 1, 1) := by decide +kernel
theorem dX5_arrive_75 : decode cX5_arrive 75 = .ok (.goto 4, 3) := by decide +kernel
theorem dX5_arrive_78 : decode cX5_arrive 78 = .ok (.iconst 0, 1) := by decide +kernel
theorem dX5_arrive_79 : decode cX5_arrive 79 = .ok (.ireturn, 1) := by decide +kernel
set_option maxRecDepth 20000 in
theorem ggX5_search_X5_begin : GoodIn wsX5_search wsX5_begin := goodIn_r _ [14, 15, 8, 16, 17, 18, 19, 20, 21, 13, 22, 23, 24, 25, 26, 27, 28, 29, 30, 58, 59, 60, 61, 62, 63, 64, 65, 66, 67, 68, 69, 70, 71, 72, 73, 74, 75, 76, 77, 78, 79, 80, 81, 82, 83, 84, 85, 86, 87, 88, 89, 90] (by decide +kernel) (by decide +kernel)
set_option maxRecDepth 20000 in
theorem gX5_search_X5_begin : GoodIn wsX5_search (wsV RX5 146 RX5 yX5_begin wsX5_begin) := goodIn_app (goodIn_r _ [10, 11, 12, 13] (by decide +kernel) (by decide +kernel)) ggX5_search_X5_begin
set_option maxRecDepth 20000 in
theorem ggX5_search_X5_arrive : GoodIn wsX5_search wsX5_arrive := goodIn_r _ [34, 1, 35, 4, 5, 3, 6, 2, 36, 37, 38, 13, 39, 40, 16, 41, 42, 43, 44, 45, 7, 46, 47, 48, 49, 15, 8, 26, 27, 28, 29, 30, 50, 51, 52, 53, 23, 25, 24, 54, 55, 56, 57, 58, 59, 60, 61, 62, 63, 64, 65, 66, 67, 68, 69, 70, 71, 72, 73, 74, 75, 76, 77, 78, 79, 80, 81, 82, 83, 84, 85, 86, 87, 88, 89, 90] (by decide +kernel) (by decide +kernel)
set_option maxRecDepth 20000 in
theorem gX5_search_X5_arrive : GoodIn wsX5_search (wsV RX5 180 RX5 yX5_arrive wsX5_arrive) := goodIn_app (goodIn_r _ [31, 32, 33, 13] (by decide +kernel) (by decide +kernel)) ggX5_search_X5_arrive
set_option maxRecDepth 20000 in
theorem ggX5_search_X5_isCandidate : GoodIn wsX5_search wsX5_isCandidate := goodIn_r _ [49, 15, 8, 26, 27, 28, 13, 29, 30, 50, 51, 52, 53, 23, 25, 40, 16, 41, 24, 58, 59, 60, 61, 62, 63, 64, 65, 66, 67, 68, 69, 70, 71, 72, 73, 74, 75, 76, 77, 78, 79, 80, 81, 82, 83, 84, 85, 86, 87, 88, 89, 90] (by decide +kernel) (by decide +kernel)
set_option maxRecDepth 20000 in
theorem gX5_search_X5_isCandidate : GoodIn wsX5_search (wsV RX5 152 RX5 yX5_isCandidate wsX5_isCandidate) := goodIn_app (goodIn_r _ [46, 47, 48, 13] (by decide +kernel) (by decide +kernel)) ggX5_search_X5_isCandidate
set_option maxRecDepth 20000 in
theorem ggX5_search_X5_choose : GoodIn wsX5_search wsX5_choose := goodIn_r _ [22, 15, 23, 16, 24, 25, 26, 27, 28, 13, 29, 30, 58, 59, 60, 61, 62, 63, 64, 65, 66, 67, 68, 69, 70, 71, 72, 73, 74, 75, 76, 77, 78, 79, 80, 81, 82, 83, 84, 85, 86, 87, 88, 89, 90] (by decide +kernel) (by decide +kernel)
set_option maxRecDepth 20000 in
theorem gX5_search_X5_choose : GoodIn wsX5_search (wsV RX5 133 RX5 yX5_choose wsX5_choose) := goodIn_app (goodIn_r _ [19, 20, 21, 13] (by decide +kernel) (by decide +kernel)) ggX5_search_X5_choose
theorem dX5_search_0 : decode cX5_search 0 = .ok (.aload_n 0, 1) := by decide +kernel
theorem dX5_search_1 : decode cX5_search 1 = .ok (.invokevirtual 146, 3) := by decide +kernel
theorem dX5_search_4 : decode cX5_search 4 = .ok (.aload_n 0, 1) := by decide +kernel
theorem dX5_search_5 : decode cX5_search 5 = .ok (.iconst 0, 1) := by decide +kernel
theorem dX5_search_6 : decode cX5_search 6 = .ok (.putfield 161, 3) := by decide +kernel
theorem dX5_search_9 : decode cX5_search 9 = .ok (.aload_n 0, 1) := by decide +kernel
theorem dX5_search_10 : decode cX5_search 10 = .ok (.iconst 0, 1) := by decide +kernel
theorem dX5_search_11 : decode cX5_search 11 = .ok (.putfield 158, 3) := by decide +kernel
theorem dX5_search_14 : decode cX5_search 14 = .ok (.aload_n 0, 1) := by decide +kernel
theorem dX5_search_15 : decode cX5_search 15 = .ok (.iconst 0, 1) := by decide +kernel
theorem dX5_search_16 : decode cX5_search 16 = .ok (.putfield 169, 3) := by decide +kernel
theorem dX5_search_19 : decode cX5_search 19 = .ok (.aload_n 0, 1) := by decide +kernel
theorem dX5_search_20 : decode cX5_search 20 = .ok (.iconst 0, 1) := by decide +kernel
theorem dX5_search_21 : decode cX5_search 21 = .ok (.putfield 165, 3) := by decide +kernel
theorem dX5_search_24 : decode cX5_search 24 = .ok (.aload_n 0, 1) := by decide +kernel
theorem dX5_search_25 : decode cX5_search 25 = .ok (.aload_n 1, 1) := by decide +kernel
theorem dX5_search_26 : decode cX5_search 26 = .ok (.iload_n 2, 1) := by decide +kernel
theorem dX5_search_27 : decode cX5_search 27 = .ok (.invokevirtual 180, 3) := by decide +kernel
theorem dX5_search_30 : decode cX5_search 30 = .ok (.istore_n 3, 1) := by decide +kernel
theorem dX5_search_31 : decode cX5_search 31 = .ok (.iload_n 3, 1) := by decide +kernel
theorem dX5_search_32 : decode cX5_search 32 = .ok (.ifCond .eq 233, 3) := by decide +kernel
theorem dX5_search_35 : decode cX5_search 35 = .ok (.aload_n 0, 1) := by decide +kernel
theorem dX5_search_36 : decode cX5_search 36 = .ok (.getfield 169, 3) := by decide +kernel
theorem dX5_search_39 : decode cX5_search 39 = .ok (.ifCond .lt 226, 3) := by decide +kernel
theorem dX5_search_42 : decode cX5_search 42 = .ok (.aload_n 0, 1) := by decide +kernel
theorem dX5_search_43 : decode cX5_search 43 = .ok (.getfield 35, 3) := by decide +kernel
theorem dX5_search_46 : decode cX5_search 46 = .ok (.aload_n 0, 1) := by decide +kernel
theorem dX5_search_47 : decode cX5_search 47 = .ok (.getfield 169, 3) := by decide +kernel
theorem dX5_search_50 : decode cX5_search 50 = .ok (.iaload, 1) := by decide +kernel
theorem dX5_search_51 : decode cX5_search 51 = .ok (.istore 4, 2) := by decide +kernel
theorem dX5_search_53 : decode cX5_search 53 = .ok (.aload_n 0, 1) := by decide +kernel
theorem dX5_search_54 : decode cX5_search 54 = .ok (.getfield 38, 3) := by decide +kernel
theorem dX5_search_57 : decode cX5_search 57 = .ok (.aload_n 0, 1) := by decide +kernel
theorem dX5_search_58 : decode cX5_search 58 = .ok (.getfield 169, 3) := by decide +kernel
theorem dX5_search_61 : decode cX5_search 61 = .ok (.iaload, 1) := by decide +kernel
theorem dX5_search_62 : decode cX5_search 62 = .ok (.istore 5, 2) := by decide +kernel
theorem dX5_search_64 : decode cX5_search 64 = .ok (.iload 4, 2) := by decide +kernel
theorem dX5_search_66 : decode cX5_search 66 = .ok (.ifCond .lt 29, 3) := by decide +kernel
theorem dX5_search_69 : decode cX5_search 69 = .ok (.iload 5, 2) := by decide +kernel
theorem dX5_search_71 : decode cX5_search 71 = .ok (.aload_n 0, 1) := by decide +kernel
theorem dX5_search_72 : decode cX5_search 72 = .ok (.getfield 76, 3) := by decide +kernel
theorem dX5_search_75 : decode cX5_search 75 = .ok (.if_icmp .ge 20, 3) := by decide +kernel
theorem dX5_search_78 : decode cX5_search 78 = .ok (.aload_n 0, 1) := by decide +kernel
theorem dX5_search_79 : decode cX5_search 79 = .ok (.iload 5, 2) := by decide +kernel
theorem dX5_search_81 : decode cX5_search 81 = .ok (.iload 4, 2) := by decide +kernel
theorem dX5_search_83 : decode cX5_search 83 = .ok (.invokevirtual 152, 3) := by decide +kernel
theorem dX5_search_86 : decode cX5_search 86 = .ok (.ifCond .ne 9, 3) := by decide +kernel
theorem dX5_search_89 : decode cX5_search 89 = .ok (.iinc 5 1, 3) := by decide +kernel
theorem dX5_search_92 : decode cX5_search 92 = .ok (.goto (-28), 3) := by decide +kernel
theorem dX5_search_95 : decode cX5_search 95 = .ok (.iload 4, 2) := by decide +kernel
theorem dX5_search_97 : decode cX5_search 97 = .ok (.ifCond .lt 12, 3) := by decide +kernel
theorem dX5_search_100 : decode cX5_search 100 = .ok (.iload 5, 2) := by decide +kernel
theorem dX5_search_102 : decode cX5_search 102 = .ok (.aload_n 0, 1) := by decide +kernel
theorem dX5_search_103 : decode cX5_search 103 = .ok (.getfield 76, 3) := by decide +kernel
theorem dX5_search_106 : decode cX5_search 106 = .ok (.if_icmp .ne 108, 3) := by decide +kernel
theorem dX5_search_109 : decode cX5_search 109 = .ok (.iconst 0, 1) := by decide +kernel
theorem dX5_search_110 : decode cX5_search 110 = .ok (.istore 6, 2) := by decide +kernel
theorem dX5_search_112 : decode cX5_search 112 = .ok (.iload 6, 2) := by decide +kernel
theorem dX5_search_114 : decode cX5_search 114 = .ok (.aload_n 0, 1) := by decide +kernel
theorem dX5_search_115 : decode cX5_search 115 = .ok (.getfield 76, 3) := by decide +kernel
theorem dX5_search_118 : decode cX5_search 118 = .ok (.if_icmp .ge 41, 3) := by decide +kernel
theorem dX5_search_121 : decode cX5_search 121 = .ok (.aload_n 0, 1) := by decide +kernel
theorem dX5_search_122 : decode cX5_search 122 = .ok (.getfield 41, 3) := by decide +kernel
theorem dX5_search_125 : decode cX5_search 125 = .ok (.iload 6, 2) := by decide +kernel
theorem dX5_search_127 : decode cX5_search 127 = .ok (.aload_n 0, 1) := by decide +kernel
theorem dX5_search_128 : decode cX5_search 128 = .ok (.getfield 41, 3) := by decide +kernel
theorem dX5_search_131 : decode cX5_search 131 = .ok (.iload 6, 2) := by decide +kernel
theorem dX5_search_133 : decode cX5_search 133 = .ok (.iaload, 1) := by decide +kernel
theorem dX5_search_134 : decode cX5_search 134 = .ok (.aload_n 0, 1) := by decide +kernel
theorem dX5_search_135 : decode cX5_search 135 = .ok (.getfield 169, 3) := by decide +kernel
theorem dX5_search_138 : decode cX5_search 138 = .ok (.if_icmp .ne 7, 3) := by decide +kernel
theorem dX5_search_141 : decode cX5_search 141 = .ok (.iconst (-1), 1) := by decide +kernel
theorem dX5_search_142 : decode cX5_search 142 = .ok (.goto 10, 3) := by decide +kernel
theorem dX5_search_145 : decode cX5_search 145 = .ok (.aload_n 0, 1) := by decide +kernel
theorem dX5_search_146 : decode cX5_search 146 = .ok (.getfield 41, 3) := by decide +kernel
theorem dX5_search_149 : decode cX5_search 149 = .ok (.iload 6, 2) := by decide +kernel
theorem dX5_search_151 : decode cX5_search 151 = .ok (.iaload, 1) := by decide +kernel
theorem dX5_search_152 : decode cX5_search 152 = .ok (.iastore, 1) := by decide +kernel
theorem dX5_search_153 : decode cX5_search 153 = .ok (.iinc 6 1, 3) := by decide +kernel
theorem dX5_search_156 : decode cX5_search 156 = .ok (.goto (-44), 3) := by decide +kernel
theorem dX5_search_159 : decode cX5_search 159 = .ok (.aload_n 0, 1) := by decide +kernel
theorem dX5_search_160 : decode cX5_search 160 = .ok (.dup, 1) := by decide +kernel
theorem dX5_search_161 : decode cX5_search 161 = .ok (.getfield 169, 3) := by decide +kernel
theorem dX5_search_164 : decode cX5_search 164 = .ok (.iconst 1, 1) := by decide +kernel
theorem dX5_search_165 : decode cX5_search 165 = .ok (.isub, 1) := by decide +kernel
theorem dX5_search_166 : decode cX5_search 166 = .ok (.putfield 169, 3) := by decide +kernel
theorem dX5_search_169 : decode cX5_search 169 = .ok (.aload_n 0, 1) := by decide +kernel
theorem dX5_search_170 : decode cX5_search 170 = .ok (.getfield 169, 3) := by decide +kernel
theorem dX5_search_173 : decode cX5_search 173 = .ok (.ifCond .ge 6, 3) := by decide +kernel
theorem dX5_search_176 : decode cX5_search 176 = .ok (.goto (-145), 3) := by decide +kernel
theorem dX5_search_179 : decode cX5_search 179 = .ok (.aload_n 0, 1) := by decide +kernel
theorem dX5_search_180 : decode cX5_search 180 = .ok (.aload_n 0, 1) := by decide +kernel
theorem dX5_search_181 : decode cX5_search 181 = .ok (.getfield 28, 3) := by decide +kernel
theorem dX5_search_184 : decode cX5_search 184 = .ok (.aload_n 0, 1) := by decide +kernel
theorem dX5_search_185 : decode cX5_search 185 = .ok (.getfield 169, 3) := by decide +kernel
theorem dX5_search_188 : decode cX5_search 188 = .ok (.iaload, 1) := by decide +kernel
theorem dX5_search_189 : decode cX5_search 189 = .ok (.iconst 0, 1) := by decide +kernel
theorem dX5_search_190 : decode cX5_search 190 = .ok (.invokevirtual 133, 3) := by decide +kernel
theorem dX5_search_193 : decode cX5_search 193 = .ok (.aload_n 0, 1) := by decide +kernel
theorem dX5_search_194 : decode cX5_search 194 = .ok (.getfield 41, 3) := by decide +kernel
theorem dX5_search_197 : decode cX5_search 197 = .ok (.aload_n 0, 1) := by decide +kernel
theorem dX5_search_198 : decode cX5_search 198 = .ok (.getfield 28, 3) := by decide +kernel
theorem dX5_search_201 : decode cX5_search 201 = .ok (.aload_n 0, 1) := by decide +kernel
theorem dX5_search_202 : decode cX5_search 202 = .ok (.getfield 169, 3) := by decide +kernel
theorem dX5_search_205 : decode cX5_search 205 = .ok (.iaload, 1) := by decide +kernel
theorem dX5_search_206 : decode cX5_search 206 = .ok (.aload_n 0, 1) := by decide +kernel
theorem dX5_search_207 : decode cX5_search 207 = .ok (.getfield 169, 3) := by decide +kernel
theorem dX5_search_210 : decode cX5_search 210 = .ok (.iastore, 1) := by decide +kernel
theorem dX5_search_211 : decode cX5_search 211 = .ok (.goto (-180), 3) := by decide +kernel
theorem dX5_search_214 : decode cX5_search 214 = .ok (.aload_n 0, 1) := by decide +kernel
theorem dX5_search_215 : decode cX5_search 215 = .ok (.getfield 38, 3) := by decide +kernel
theorem dX5_search_218 : decode cX5_search 218 = .ok (.aload_n 0, 1) := by decide +kernel
theorem dX5_search_219 : decode cX5_search 219 = .ok (.getfield 169, 3) := by decide +kernel
theorem dX5_search_222 : decode cX5_search 222 = .ok (.iload 5, 2) := by decide +kernel
theorem dX5_search_224 : decode cX5_search 224 = .ok (.iconst 1, 1) := by decide +kernel
theorem dX5_search_225 : decode cX5_search 225 = .ok (.iadd, 1) := by decide +kernel
theorem dX5_search_226 : decode cX5_search 226 = .ok (.iastore, 1) := by decide +kernel
theorem dX5_search_227 : decode cX5_search 227 = .ok (.aload_n 0, 1) := by decide +kernel
theorem dX5_search_228 : decode cX5_search 228 = .ok (.getfield 28, 3) := by decide +kernel
theorem dX5_search_231 : decode cX5_search 231 = .ok (.aload_n 0, 1) := by decide +kernel
theorem dX5_search_232 : decode cX5_search 232 = .ok (.getfield 169, 3) := by decide +kernel
theorem dX5_search_235 : decode cX5_search 235 = .ok (.iload 5, 2) := by decide +kernel
theorem dX5_search_237 : decode cX5_search 237 = .ok (.iastore, 1) := by decide +kernel
theorem dX5_search_238 : decode cX5_search 238 = .ok (.aload_n 0, 1) := by decide +kernel
theorem dX5_search_239 : decode cX5_search 239 = .ok (.iload 5, 2) := by decide +kernel
theorem dX5_search_241 : decode cX5_search 241 = .ok (.iconst 1, 1) := by decide +kernel
theorem dX5_search_242 : decode cX5_search 242 = .ok (.invokevirtual 133, 3) := by decide +kernel
theorem dX5_search_245 : decode cX5_search 245 = .ok (.aload_n 0, 1) := by decide +kernel
theorem dX5_search_246 : decode cX5_search 246 = .ok (.dup, 1) := by decide +kernel
theorem dX5_search_247 : decode cX5_search 247 = .ok (.getfield 169, 3) := by decide +kernel
theorem dX5_search_250 : decode cX5_search 250 = .ok (.iconst 1, 1) := by decide +kernel
theorem dX5_search_251 : decode cX5_search 251 = .ok (.iadd, 1) := by decide +kernel
theorem dX5_search_252 : decode cX5_search 252 = .ok (.putfield 169, 3) := by decide +kernel
theorem dX5_search_255 : decode cX5_search 255 = .ok (.aload_n 0, 1) := by decide +kernel
theorem dX5_search_256 : decode cX5_search 256 = .ok (.aload_n 1, 1) := by decide +kernel
theorem dX5_search_257 : decode cX5_search 257 = .ok (.iload_n 2, 1) := by decide +kernel
theorem dX5_search_258 : decode cX5_search 258 = .ok (.invokevirtual 180, 3) := by decide +kernel
theorem dX5_search_261 : decode cX5_search 261 = .ok (.istore_n 3, 1) := by decide +kernel
theorem dX5_search_262 : decode cX5_search 262 = .ok (.goto (-231), 3) := by decide +kernel
theorem dX5_search_265 : decode cX5_search 265 = .ok (.return_, 1) := by decide +kernel
set_option maxRecDepth 20000 in
theorem ggX5_ways_X5_search : GoodIn wsX5_ways wsX5_search := goodIn_r _ [13, 4, 6, 14, 8, 15, 16, 17, 18, 19, 20, 21, 22, 12, 23, 24, 25, 26, 27, 28, 29, 30, 31, 32, 33, 34, 35, 36, 37, 38, 39, 40, 41, 42, 43, 44, 45, 46, 47, 48, 49, 50, 51, 52, 53, 54, 55, 56, 57, 58, 59, 60, 61, 62, 63, 64, 65, 66, 67, 68, 69, 70, 71, 72, 73, 74, 75, 76, 77, 78, 79, 80, 81, 82, 83, 84, 85, 86, 87, 88, 89, 90, 91, 92, 93, 94, 95, 96, 97, 98, 99] (by decide +kernel) (by decide +kernel)
set_option maxRecDepth 20000 in
theorem gX5_ways_X5_search : GoodIn wsX5_ways (wsV RX5 185 RX5 yX5_search wsX5_search) := goodIn_app (goodIn_r _ [9, 10, 11, 12] (by decide +kernel) (by decide +kernel)) ggX5_ways_X5_search
theorem dX5_ways_0 : decode cX5_ways 0 = .ok (.aload_n 0, 1) := by decide +kernel
theorem dX5_ways_1 : decode cX5_ways 1 = .ok (.iconst 0, 1) := by decide +kernel
theorem dX5_ways_2 : decode cX5_ways 2 = .ok (.putfield 73, 3) := by decide +kernel
theorem dX5_ways_5 : decode cX5_ways 5 = .ok (.iload_n 1, 1) := by decide +kernel
theorem dX5_ways_6 : decode cX5_ways 6 = .ok (.iconst 1, 1) := by decide +kernel
theorem dX5_ways_7 : decode cX5_ways 7 = .ok (.if_icmp .lt 9, 3) := by decide +kernel
theorem dX5_ways_10 : decode cX5_ways 10 = .ok (.iload_n 1, 1) := by decide +kernel
theorem dX5_ways_11 : decode cX5_ways 11 = .ok (.ldc 184, 2) := by decide +kernel
theorem dX5_ways_13 : decode cX5_ways 13 = .ok (.if_icmp .le 5, 3) := by decide +kernel
theorem dX5_ways_16 : decode cX5_ways 16 = .ok (.iconst (-1), 1) := by decide +kernel
theorem dX5_ways_17 : decode cX5_ways 17 = .ok (.ireturn, 1) := by decide +kernel
theorem dX5_ways_18 : decode cX5_ways 18 = .ok (.aload_n 0, 1) := by decide +kernel
theorem dX5_ways_19 : decode cX5_ways 19 = .ok (.aload_n 0, 1) := by decide +kernel
theorem dX5_ways_20 : decode cX5_ways 20 = .ok (.getfield 44, 3) := by decide +kernel
theorem dX5_ways_23 : decode cX5_ways 23 = .ok (.iload_n 1, 1) := by decide +kernel
theorem dX5_ways_24 : decode cX5_ways 24 = .ok (.invokevirtual 185, 3) := by decide +kernel
theorem dX5_ways_27 : decode cX5_ways 27 = .ok (.aload_n 0, 1) := by decide +kernel
theorem dX5_ways_28 : decode cX5_ways 28 = .ok (.aload_n 0, 1) := by decide +kernel
theorem dX5_ways_29 : decode cX5_ways 29 = .ok (.getfield 161, 3) := by decide +kernel
theorem dX5_ways_32 : decode cX5_ways 32 = .ok (.putfield 189, 3) := by decide +kernel
theorem dX5_ways_35 : decode cX5_ways 35 = .ok (.aload_n 0, 1) := by decide +kernel
theorem dX5_ways_36 : decode cX5_ways 36 = .ok (.aload_n 0, 1) := by decide +kernel
theorem dX5_ways_37 : decode cX5_ways 37 = .ok (.getfield 158, 3) := by decide +kernel
theorem dX5_ways_40 : decode cX5_ways 40 = .ok (.bipush 100, 2) := by decide +kernel
theorem dX5_ways_42 : decode cX5_ways 42 = .ok (.if_icmp .ge 10, 3) := by decide +kernel
theorem dX5_ways_45 : decode cX5_ways 45 = .ok (.aload_n 0, 1) := by decide +kernel
theorem dX5_ways_46 : decode cX5_ways 46 = .ok (.getfield 158, 3) := by decide +kernel
theorem dX5_ways_49 : decode cX5_ways 49 = .ok (.goto 5, 3) := by decide +kernel
theorem dX5_ways_52 : decode cX5_ways 52 = .ok (.bipush 100, 2) := by decide +kernel
theorem dX5_ways_54 : decode cX5_ways 54 = .ok (.putfield 90, 3) := by decide +kernel
theorem dX5_ways_57 : decode cX5_ways 57 = .ok (.aload_n 0, 1) := by decide +kernel
theorem dX5_ways_58 : decode cX5_ways 58 = .ok (.getfield 165, 3) := by decide +kernel
theorem dX5_ways_61 : decode cX5_ways 61 = .ok (.ifCond .eq 8, 3) := by decide +kernel
theorem dX5_ways_64 : decode cX5_ways 64 = .ok (.bipush (-2), 2) := by decide +kernel
theorem dX5_ways_66 : decode cX5_ways 66 = .ok (.goto 7, 3) := by decide +kernel
theorem dX5_ways_69 : decode cX5_ways 69 = .ok (.aload_n 0, 1) := by decide +kernel
theorem dX5_ways_70 : decode cX5_ways 70 = .ok (.getfield 158, 3) := by decide +kernel
theorem dX5_ways_73 : decode cX5_ways 73 = .ok (.ireturn, 1) := by decide +kernel
theorem dX5_nodes_0 : decode cX5_nodes 0 = .ok (.aload_n 0, 1) := by decide +kernel
theorem dX5_nodes_1 : decode cX5_nodes 1 = .ok (.iconst 0, 1) := by decide +kernel
theorem dX5_nodes_2 : decode cX5_nodes 2 = .ok (.putfield 73, 3) := by decide +kernel
theorem dX5_nodes_5 : decode cX5_nodes 5 = .ok (.aload_n 0, 1) := by decide +kernel
theorem dX5_nodes_6 : decode cX5_nodes 6 = .ok (.getfield 189, 3) := by decide +kernel
theorem dX5_nodes_9 : decode cX5_nodes 9 = .ok (.ireturn, 1) := by decide +kernel
theorem dX5_way_0 : decode cX5_way 0 = .ok (.aload_n 0, 1) := by decide +kernel
theorem dX5_way_1 : decode cX5_way 1 = .ok (.iconst 0, 1) := by decide +kernel
theorem dX5_way_2 : decode cX5_way 2 = .ok (.putfield 73, 3) := by decide +kernel
theorem dX5_way_5 : decode cX5_way 5 = .ok (.iload_n 1, 1) := by decide +kernel
theorem dX5_way_6 : decode cX5_way 6 = .ok (.ifCond .lt 11, 3) := by decide +kernel
theorem dX5_way_9 : decode cX5_way 9 = .ok (.iload_n 1, 1) := by decide +kernel
theorem dX5_way_10 : decode cX5_way 10 = .ok (.aload_n 0, 1) := by decide +kernel
theorem dX5_way_11 : decode cX5_way 11 = .ok (.getfield 90, 3) := by decide +kernel
theorem dX5_way_14 : decode cX5_way 14 = .ok (.if_icmp .lt 5, 3) := by decide +kernel
theorem dX5_way_17 : decode cX5_way 17 = .ok (.iconst (-1), 1) := by decide +kernel
theorem dX5_way_18 : decode cX5_way 18 = .ok (.ireturn, 1) := by decide +kernel
theorem dX5_way_19 : decode cX5_way 19 = .ok (.iconst 0, 1) := by decide +kernel
theorem dX5_way_20 : decode cX5_way 20 = .ok (.istore_n 3, 1) := by decide +kernel
theorem dX5_way_21 : decode cX5_way 21 = .ok (.iconst 0, 1) := by decide +kernel
theorem dX5_way_22 : decode cX5_way 22 = .ok (.istore 4, 2) := by decide +kernel
theorem dX5_way_24 : decode cX5_way 24 = .ok (.iload 4, 2) := by decide +kernel
theorem dX5_way_26 : decode cX5_way 26 = .ok (.aload_n 0, 1) := by decide +kernel
theorem dX5_way_27 : decode cX5_way 27 = .ok (.getfield 76, 3) := by decide +kernel
theorem dX5_way_30 : decode cX5_way 30 = .ok (.if_icmp .ge 39, 3) := by decide +kernel
theorem dX5_way_33 : decode cX5_way 33 = .ok (.aload_n 0, 1) := by decide +kernel
theorem dX5_way_34 : decode cX5_way 34 = .ok (.getfield 44, 3) := by decide +kernel
theorem dX5_way_37 : decode cX5_way 37 = .ok (.iload_n 1, 1) := by decide +kernel
theorem dX5_way_38 : decode cX5_way 38 = .ok (.laload, 1) := by decide +kernel
theorem dX5_way_39 : decode cX5_way 39 = .ok (.iload 4, 2) := by decide +kernel
theorem dX5_way_41 : decode cX5_way 41 = .ok (.lshr, 1) := by decide +kernel
theorem dX5_way_42 : decode cX5_way 42 = .ok (.lconst 1, 1) := by decide +kernel
theorem dX5_way_43 : decode cX5_way 43 = .ok (.land, 1) := by decide +kernel
theorem dX5_way_44 : decode cX5_way 44 = .ok (.lconst 0, 1) := by decide +kernel
theorem dX5_way_45 : decode cX5_way 45 = .ok (.lcmp, 1) := by decide +kernel
theorem dX5_way_46 : decode cX5_way 46 = .ok (.ifCond .ne 6, 3) := by decide +kernel
theorem dX5_way_49 : decode cX5_way 49 = .ok (.goto 14, 3) := by decide +kernel
theorem dX5_way_52 : decode cX5_way 52 = .ok (.iload_n 3, 1) := by decide +kernel
theorem dX5_way_53 : decode cX5_way 53 = .ok (.iload_n 2, 1) := by decide +kernel
theorem dX5_way_54 : decode cX5_way 54 = .ok (.if_icmp .ne 6, 3) := by decide +kernel
theorem dX5_way_57 : decode cX5_way 57 = .ok (.iload 4, 2) := by decide +kernel
theorem dX5_way_59 : decode cX5_way 59 = .ok (.ireturn, 1) := by decide +kernel
theorem dX5_way_60 : decode cX5_way 60 = .ok (.iinc 3 1, 3) := by decide +kernel
theorem dX5_way_63 : decode cX5_way 63 = .ok (.iinc 4 1, 3) := by decide +kernel
theorem dX5_way_66 : decode cX5_way 66 = .ok (.goto (-42), 3) := by decide +kernel
theorem dX5_way_69 : decode cX5_way 69 = .ok (.iconst (-1), 1) := by decide +kernel
theorem dX5_way_70 : decode cX5_way 70 = .ok (.ireturn, 1) := by decide +kernel
theorem dX5_turn_0 : decode cX5_turn 0 = .ok (.aload_n 0, 1) := by decide +kernel
theorem dX5_turn_1 : decode cX5_turn 1 = .ok (.iconst 0, 1) := by decide +kernel
theorem dX5_turn_2 : decode cX5_turn 2 = .ok (.putfield 73, 3) := by decide +kernel
theorem dX5_turn_5 : decode cX5_turn 5 = .ok (.aload_n 0, 1) := by decide +kernel
theorem dX5_turn_6 : decode cX5_turn 6 = .ok (.getfield 192, 3) := by decide +kernel
theorem dX5_turn_9 : decode cX5_turn 9 = .ok (.bipush 8, 2) := by decide +kernel
theorem dX5_turn_11 : decode cX5_turn 11 = .ok (.if_icmp .ne 5, 3) := by decide +kernel
theorem dX5_turn_14 : decode cX5_turn 14 = .ok (.iconst (-1), 1) := by decide +kernel
theorem dX5_turn_15 : decode cX5_turn 15 = .ok (.ireturn, 1) := by decide +kernel
theorem dX5_turn_16 : decode cX5_turn 16 = .ok (.iconst 0, 1) := by decide +kernel
theorem dX5_turn_17 : decode cX5_turn 17 = .ok (.istore_n 1, 1) := by decide +kernel
theorem dX5_turn_18 : decode cX5_turn 18 = .ok (.iload_n 1, 1) := by decide +kernel
theorem dX5_turn_19 : decode cX5_turn 19 = .ok (.bipush 24, 2) := by decide +kernel
theorem dX5_turn_21 : decode cX5_turn 21 = .ok (.if_icmp .ge 24, 3) := by decide +kernel
theorem dX5_turn_24 : decode cX5_turn 24 = .ok (.aload_n 0, 1) := by decide +kernel
theorem dX5_turn_25 : decode cX5_turn 25 = .ok (.getfield 51, 3) := by decide +kernel
theorem dX5_turn_28 : decode cX5_turn 28 = .ok (.bipush 24, 2) := by decide +kernel
theorem dX5_turn_30 : decode cX5_turn 30 = .ok (.aload_n 0, 1) := by decide +kernel
theorem dX5_turn_31 : decode cX5_turn 31 = .ok (.getfield 192, 3) := by decide +kernel
theorem dX5_turn_34 : decode cX5_turn 34 = .ok (.imul, 1) := by decide +kernel
theorem dX5_turn_35 : decode cX5_turn 35 = .ok (.iload_n 1, 1) := by decide +kernel
theorem dX5_turn_36 : decode cX5_turn 36 = .ok (.iadd, 1) := by decide +kernel
theorem dX5_turn_37 : decode cX5_turn 37 = .ok (.iload_n 1, 1) := by decide +kernel
theorem dX5_turn_38 : decode cX5_turn 38 = .ok (.iastore, 1) := by decide +kernel
theorem dX5_turn_39 : decode cX5_turn 39 = .ok (.iinc 1 1, 3) := by decide +kernel
theorem dX5_turn_42 : decode cX5_turn 42 = .ok (.goto (-24), 3) := by decide +kernel
theorem dX5_turn_45 : decode cX5_turn 45 = .ok (.aload_n 0, 1) := by decide +kernel
theorem dX5_turn_46 : decode cX5_turn 46 = .ok (.dup, 1) := by decide +kernel
theorem dX5_turn_47 : decode cX5_turn 47 = .ok (.getfield 192, 3) := by decide +kernel
theorem dX5_turn_50 : decode cX5_turn 50 = .ok (.iconst 1, 1) := by decide +kernel
theorem dX5_turn_51 : decode cX5_turn 51 = .ok (.iadd, 1) := by decide +kernel
theorem dX5_turn_52 : decode cX5_turn 52 = .ok (.putfield 192, 3) := by decide +kernel
theorem dX5_turn_55 : decode cX5_turn 55 = .ok (.aload_n 0, 1) := by decide +kernel
theorem dX5_turn_56 : decode cX5_turn 56 = .ok (.getfield 192, 3) := by decide +kernel
theorem dX5_turn_59 : decode cX5_turn 59 = .ok (.iconst 1, 1) := by decide +kernel
theorem dX5_turn_60 : decode cX5_turn 60 = .ok (.isub, 1) := by decide +kernel
theorem dX5_turn_61 : decode cX5_turn 61 = .ok (.ireturn, 1) := by decide +kernel
set_option maxRecDepth 20000 in
theorem ggX5_exchange_X5_isColumn : GoodIn wsX5_exchange wsX5_isColumn := goodIn_r _ [7, 8, 14, 15, 16, 17, 18, 19, 20, 21, 22, 23, 24, 25, 26, 27, 28, 29, 30, 31, 32, 33, 34, 35, 36, 37, 38, 39, 40, 41, 42, 43, 44, 45, 46] (by decide +kernel) (by decide +kernel)
set_option maxRecDepth 20000 in
theorem gX5_exchange_X5_isColumn : GoodIn wsX5_exchange (wsV RX5 79 RX5 yX5_isColumn wsX5_isColumn) := goodIn_app (goodIn_r _ [3, 4, 5, 6] (by decide +kernel) (by decide +kernel)) ggX5_exchange_X5_isColumn
set_option maxRecDepth 20000 in
theorem ggX5_exchange_X5_throwsIf : GoodIn wsX5_exchange wsX5_throwsIf := goodIn_r _ [12, 13, 14, 15, 16, 17, 18, 19, 20, 21, 22, 23, 24, 25, 26, 27, 28, 29, 30, 31, 32, 33, 34, 35, 36, 37, 38, 39, 40, 41, 42, 43, 44, 45, 46] (by decide +kernel) (by decide +kernel)
set_option maxRecDepth 20000 in
theorem gX5_exchange_X5_throwsIf : GoodIn wsX5_exchange (wsV RX5 83 RX5 yX5_throwsIf wsX5_throwsIf) := goodIn_app (goodIn_r _ [9, 10, 11, 6] (by decide +kernel) (by decide +kernel)) ggX5_exchange_X5_throwsIf
theorem dX5_exchange_0 : decode cX5_exchange 0 = .ok (.aload_n 0, 1) := by decide +kernel
theorem dX5_exchange_1 : decode cX5_exchange 1 = .ok (.iconst 1, 1) := by decide +kernel
theorem dX5_exchange_2 : decode cX5_exchange 2 = .ok (.iload_n 1, 1) := by decide +kernel
theorem dX5_exchange_3 : decode cX5_exchange 3 = .ok (.ifCond .lt 27, 3) := by decide +kernel
theorem dX5_exchange_6 : decode cX5_exchange 6 = .ok (.iload_n 1, 1) := by decide +kernel
theorem dX5_exchange_7 : decode cX5_exchange 7 = .ok (.aload_n 0, 1) := by decide +kernel
theorem dX5_exchange_8 : decode cX5_exchange 8 = .ok (.getfield 192, 3) := by decide +kernel
theorem dX5_exchange_11 : decode cX5_exchange 11 = .ok (.if_icmp .ge 19, 3) := by decide +kernel
theorem dX5_exchange_14 : decode cX5_exchange 14 = .ok (.aload_n 0, 1) := by decide +kernel
