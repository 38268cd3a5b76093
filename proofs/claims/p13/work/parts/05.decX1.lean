theorem dX1_init_0 : decode cX1_init 0 = .ok (.aload_n 0, 1) := by decide +kernel
theorem dX1_init_1 : decode cX1_init 1 = .ok (.invokespecial 3, 3) := by decide +kernel
theorem dX1_init_4 : decode cX1_init 4 = .ok (.aload_n 0, 1) := by decide +kernel
theorem dX1_init_5 : decode cX1_init 5 = .ok (.bipush 61, 2) := by decide +kernel
theorem dX1_init_7 : decode cX1_init 7 = .ok (.newarray .long, 2) := by decide +kernel
theorem dX1_init_9 : decode cX1_init 9 = .ok (.putfield 9, 3) := by decide +kernel
theorem dX1_init_12 : decode cX1_init 12 = .ok (.aload_n 0, 1) := by decide +kernel
theorem dX1_init_13 : decode cX1_init 13 = .ok (.bipush 61, 2) := by decide +kernel
theorem dX1_init_15 : decode cX1_init 15 = .ok (.newarray .long, 2) := by decide +kernel
theorem dX1_init_17 : decode cX1_init 17 = .ok (.putfield 15, 3) := by decide +kernel
theorem dX1_init_20 : decode cX1_init 20 = .ok (.aload_n 0, 1) := by decide +kernel
theorem dX1_init_21 : decode cX1_init 21 = .ok (.bipush 61, 2) := by decide +kernel
theorem dX1_init_23 : decode cX1_init 23 = .ok (.newarray .long, 2) := by decide +kernel
theorem dX1_init_25 : decode cX1_init 25 = .ok (.putfield 18, 3) := by decide +kernel
theorem dX1_init_28 : decode cX1_init 28 = .ok (.aload_n 0, 1) := by decide +kernel
theorem dX1_init_29 : decode cX1_init 29 = .ok (.bipush 61, 2) := by decide +kernel
theorem dX1_init_31 : decode cX1_init 31 = .ok (.newarray .int, 2) := by decide +kernel
theorem dX1_init_33 : decode cX1_init 33 = .ok (.putfield 21, 3) := by decide +kernel
theorem dX1_init_36 : decode cX1_init 36 = .ok (.aload_n 0, 1) := by decide +kernel
theorem dX1_init_37 : decode cX1_init 37 = .ok (.bipush 100, 2) := by decide +kernel
theorem dX1_init_39 : decode cX1_init 39 = .ok (.newarray .long, 2) := by decide +kernel
theorem dX1_init_41 : decode cX1_init 41 = .ok (.putfield 25, 3) := by decide +kernel
theorem dX1_init_44 : decode cX1_init 44 = .ok (.aload_n 0, 1) := by decide +kernel
theorem dX1_init_45 : decode cX1_init 45 = .ok (.aload_n 1, 1) := by decide +kernel
theorem dX1_init_46 : decode cX1_init 46 = .ok (.putfield 28, 3) := by decide +kernel
theorem dX1_init_49 : decode cX1_init 49 = .ok (.return_, 1) := by decide +kernel
theorem dX1_keptCount_0 : decode cX1_keptCount 0 = .ok (.aload_n 0, 1) := by decide +kernel
theorem dX1_keptCount_1 : decode cX1_keptCount 1 = .ok (.getfield 32, 3) := by decide +kernel
theorem dX1_keptCount_4 : decode cX1_keptCount 4 = .ok (.bipush 100, 2) := by decide +kernel
theorem dX1_keptCount_6 : decode cX1_keptCount 6 = .ok (.invokestatic 36, 3) := by decide +kernel
theorem dX1_keptCount_9 : decode cX1_keptCount 9 = .ok (.ireturn, 1) := by decide +kernel
set_option maxRecDepth 20000 in
theorem ggX1_run_X2_fitting : GoodIn wsX1_run wsX2_fitting := goodIn_r _ [14, 15, 16, 17, 18, 19, 20, 13, 21, 22, 23, 24, 25, 26, 27, 28, 29, 30, 31, 32, 33, 34, 35, 36, 37, 38, 39, 40, 85, 86, 87, 88, 89, 90, 91, 92] (by decide +kernel) (by decide +kernel)
set_option maxRecDepth 20000 in
theorem gX1_run_X2_fitting : GoodIn wsX1_run (wsV RX1 45 RX2 yX2_fitting wsX2_fitting) := goodIn_app (goodIn_r _ [10, 11, 12, 13] (by decide +kernel) (by decide +kernel)) ggX1_run_X2_fitting
set_option maxRecDepth 20000 in
theorem ggX1_run_X2_neededColumns : GoodIn wsX1_run wsX2_neededColumns := goodIn_r _ [21, 22, 85, 86, 87, 88, 89, 90, 91, 92] (by decide +kernel) (by decide +kernel)
set_option maxRecDepth 20000 in
theorem gX1_run_X2_neededColumns : GoodIn wsX1_run (wsV RX1 51 RX2 yX2_neededColumns wsX2_neededColumns) := goodIn_app (goodIn_r _ [41, 19, 20, 13] (by decide +kernel) (by decide +kernel)) ggX1_run_X2_neededColumns
set_option maxRecDepth 20000 in
theorem ggX1_run_X2_uncovered : GoodIn wsX1_run wsX2_uncovered := goodIn_r _ [26, 22, 27, 28, 29, 30, 31, 32, 33, 34, 35, 85, 86, 87, 88, 89, 90, 91, 92] (by decide +kernel) (by decide +kernel)
set_option maxRecDepth 20000 in
theorem gX1_run_X2_uncovered : GoodIn wsX1_run (wsV RX1 55 RX2 yX2_uncovered wsX2_uncovered) := goodIn_app (goodIn_r _ [42, 24, 25, 13] (by decide +kernel) (by decide +kernel)) ggX1_run_X2_uncovered
set_option maxRecDepth 20000 in
theorem ggX1_run_X1_comeTo : GoodIn wsX1_run wsX1_comeTo := goodIn_r _ [47, 1, 9, 8, 5, 6, 4, 3, 48, 49, 50, 51, 13, 52, 22, 27, 29, 30, 31, 32, 33, 34, 35, 53, 54, 55, 46, 56, 2, 57, 77, 78, 79, 80, 81, 82, 83, 84, 85, 86, 87, 88, 89, 90, 91, 92] (by decide +kernel) (by decide +kernel)
set_option maxRecDepth 20000 in
theorem gX1_run_X1_comeTo : GoodIn wsX1_run (wsV RX1 58 RX1 yX1_comeTo wsX1_comeTo) := goodIn_app (goodIn_r _ [43, 44, 45, 46] (by decide +kernel) (by decide +kernel)) ggX1_run_X1_comeTo
set_option maxRecDepth 20000 in
theorem ggX1_run_X1_lowestRow : GoodIn wsX1_run wsX1_lowestRow := goodIn_r _ [60, 61, 62, 31, 63, 64, 65, 66, 67, 68] (by decide +kernel) (by decide +kernel)
set_option maxRecDepth 20000 in
theorem gX1_run_X1_lowestRow : GoodIn wsX1_run (va_wsS RX1 64 yX1_lowestRow wsX1_lowestRow) := goodIn_app (goodIn_r _ [58, 59, 46] (by decide +kernel) (by decide +kernel)) ggX1_run_X1_lowestRow
set_option maxRecDepth 20000 in
theorem ggX1_run_X1_chooseRow : GoodIn wsX1_run wsX1_chooseRow := goodIn_r _ [72, 9, 73, 4, 3, 6, 5, 74, 75, 42, 24, 25, 13, 26, 22, 27, 28, 29, 30, 31, 32, 33, 34, 35, 76, 37, 38, 39, 40, 77, 78, 79, 80, 81, 82, 83, 84, 85, 86, 87, 88, 89, 90, 91, 92] (by decide +kernel) (by decide +kernel)
set_option maxRecDepth 20000 in
theorem gX1_run_X1_chooseRow : GoodIn wsX1_run (wsV RX1 68 RX1 yX1_chooseRow wsX1_chooseRow) := goodIn_app (goodIn_r _ [69, 70, 71, 46] (by decide +kernel) (by decide +kernel)) ggX1_run_X1_chooseRow
theorem dX1_run_0 : decode cX1_run 0 = .ok (.aload_n 0, 1) := by decide +kernel
theorem dX1_run_1 : decode cX1_run 1 = .ok (.iconst 0, 1) := by decide +kernel
theorem dX1_run_2 : decode cX1_run 2 = .ok (.putfield 42, 3) := by decide +kernel
theorem dX1_run_5 : decode cX1_run 5 = .ok (.aload_n 0, 1) := by decide +kernel
theorem dX1_run_6 : decode cX1_run 6 = .ok (.iconst 0, 1) := by decide +kernel
theorem dX1_run_7 : decode cX1_run 7 = .ok (.putfield 32, 3) := by decide +kernel
theorem dX1_run_10 : decode cX1_run 10 = .ok (.aload_n 0, 1) := by decide +kernel
theorem dX1_run_11 : decode cX1_run 11 = .ok (.getfield 9, 3) := by decide +kernel
theorem dX1_run_14 : decode cX1_run 14 = .ok (.iconst 0, 1) := by decide +kernel
theorem dX1_run_15 : decode cX1_run 15 = .ok (.lload_n 1, 1) := by decide +kernel
theorem dX1_run_16 : decode cX1_run 16 = .ok (.lastore, 1) := by decide +kernel
theorem dX1_run_17 : decode cX1_run 17 = .ok (.aload_n 0, 1) := by decide +kernel
theorem dX1_run_18 : decode cX1_run 18 = .ok (.getfield 15, 3) := by decide +kernel
theorem dX1_run_21 : decode cX1_run 21 = .ok (.iconst 0, 1) := by decide +kernel
theorem dX1_run_22 : decode cX1_run 22 = .ok (.aload_n 0, 1) := by decide +kernel
theorem dX1_run_23 : decode cX1_run 23 = .ok (.getfield 28, 3) := by decide +kernel
theorem dX1_run_26 : decode cX1_run 26 = .ok (.lload_n 1, 1) := by decide +kernel
theorem dX1_run_27 : decode cX1_run 27 = .ok (.invokevirtual 45, 3) := by decide +kernel
theorem dX1_run_30 : decode cX1_run 30 = .ok (.lastore, 1) := by decide +kernel
theorem dX1_run_31 : decode cX1_run 31 = .ok (.aload_n 0, 1) := by decide +kernel
theorem dX1_run_32 : decode cX1_run 32 = .ok (.getfield 21, 3) := by decide +kernel
theorem dX1_run_35 : decode cX1_run 35 = .ok (.iconst 0, 1) := by decide +kernel
theorem dX1_run_36 : decode cX1_run 36 = .ok (.aload_n 0, 1) := by decide +kernel
theorem dX1_run_37 : decode cX1_run 37 = .ok (.getfield 28, 3) := by decide +kernel
theorem dX1_run_40 : decode cX1_run 40 = .ok (.aload_n 0, 1) := by decide +kernel
theorem dX1_run_41 : decode cX1_run 41 = .ok (.getfield 28, 3) := by decide +kernel
theorem dX1_run_44 : decode cX1_run 44 = .ok (.invokevirtual 51, 3) := by decide +kernel
theorem dX1_run_47 : decode cX1_run 47 = .ok (.lload_n 1, 1) := by decide +kernel
theorem dX1_run_48 : decode cX1_run 48 = .ok (.invokevirtual 55, 3) := by decide +kernel
theorem dX1_run_51 : decode cX1_run 51 = .ok (.iastore, 1) := by decide +kernel
theorem dX1_run_52 : decode cX1_run 52 = .ok (.aload_n 0, 1) := by decide +kernel
theorem dX1_run_53 : decode cX1_run 53 = .ok (.iconst 0, 1) := by decide +kernel
theorem dX1_run_54 : decode cX1_run 54 = .ok (.invokevirtual 58, 3) := by decide +kernel
theorem dX1_run_57 : decode cX1_run 57 = .ok (.iconst 0, 1) := by decide +kernel
theorem dX1_run_58 : decode cX1_run 58 = .ok (.istore 4, 2) := by decide +kernel
theorem dX1_run_60 : decode cX1_run 60 = .ok (.iconst 0, 1) := by decide +kernel
theorem dX1_run_61 : decode cX1_run 61 = .ok (.istore 5, 2) := by decide +kernel
theorem dX1_run_63 : decode cX1_run 63 = .ok (.iload 5, 2) := by decide +kernel
theorem dX1_run_65 : decode cX1_run 65 = .ok (.ldc 62, 2) := by decide +kernel
theorem dX1_run_67 : decode cX1_run 67 = .ok (.if_icmp .ge 86, 3) := by decide +kernel
theorem dX1_run_70 : decode cX1_run 70 = .ok (.iload 4, 2) := by decide +kernel
theorem dX1_run_72 : decode cX1_run 72 = .ok (.ifCond .lt 81, 3) := by decide +kernel
theorem dX1_run_75 : decode cX1_run 75 = .ok (.aload_n 0, 1) := by decide +kernel
theorem dX1_run_76 : decode cX1_run 76 = .ok (.getfield 42, 3) := by decide +kernel
theorem dX1_run_79 : decode cX1_run 79 = .ok (.ldc 63, 2) := by decide +kernel
theorem dX1_run_81 : decode cX1_run 81 = .ok (.if_icmp .lt 6, 3) := by decide +kernel
theorem dX1_run_84 : decode cX1_run 84 = .ok (.bipush (-2), 2) := by decide +kernel
theorem dX1_run_86 : decode cX1_run 86 = .ok (.ireturn, 1) := by decide +kernel
theorem dX1_run_87 : decode cX1_run 87 = .ok (.aload_n 0, 1) := by decide +kernel
theorem dX1_run_88 : decode cX1_run 88 = .ok (.getfield 32, 3) := by decide +kernel
theorem dX1_run_91 : decode cX1_run 91 = .ok (.iload_n 3, 1) := by decide +kernel
theorem dX1_run_92 : decode cX1_run 92 = .ok (.if_icmp .lt 8, 3) := by decide +kernel
theorem dX1_run_95 : decode cX1_run 95 = .ok (.aload_n 0, 1) := by decide +kernel
theorem dX1_run_96 : decode cX1_run 96 = .ok (.getfield 32, 3) := by decide +kernel
theorem dX1_run_99 : decode cX1_run 99 = .ok (.ireturn, 1) := by decide +kernel
theorem dX1_run_100 : decode cX1_run 100 = .ok (.aload_n 0, 1) := by decide +kernel
theorem dX1_run_101 : decode cX1_run 101 = .ok (.getfield 18, 3) := by decide +kernel
theorem dX1_run_104 : decode cX1_run 104 = .ok (.iload 4, 2) := by decide +kernel
theorem dX1_run_106 : decode cX1_run 106 = .ok (.laload, 1) := by decide +kernel
theorem dX1_run_107 : decode cX1_run 107 = .ok (.invokestatic 64, 3) := by decide +kernel
theorem dX1_run_110 : decode cX1_run 110 = .ok (.istore 6, 2) := by decide +kernel
theorem dX1_run_112 : decode cX1_run 112 = .ok (.iload 6, 2) := by decide +kernel
theorem dX1_run_114 : decode cX1_run 114 = .ok (.ifCond .lt 10, 3) := by decide +kernel
theorem dX1_run_117 : decode cX1_run 117 = .ok (.iload 4, 2) := by decide +kernel
theorem dX1_run_119 : decode cX1_run 119 = .ok (.bipush 60, 2) := by decide +kernel
theorem dX1_run_121 : decode cX1_run 121 = .ok (.if_icmp .lt 9, 3) := by decide +kernel
theorem dX1_run_124 : decode cX1_run 124 = .ok (.iinc 4 (-1), 3) := by decide +kernel
theorem dX1_run_127 : decode cX1_run 127 = .ok (.goto 20, 3) := by decide +kernel
theorem dX1_run_130 : decode cX1_run 130 = .ok (.aload_n 0, 1) := by decide +kernel
theorem dX1_run_131 : decode cX1_run 131 = .ok (.iload 4, 2) := by decide +kernel
theorem dX1_run_133 : decode cX1_run 133 = .ok (.iload 6, 2) := by decide +kernel
theorem dX1_run_135 : decode cX1_run 135 = .ok (.invokevirtual 68, 3) := by decide +kernel
theorem dX1_run_138 : decode cX1_run 138 = .ok (.iinc 4 1, 3) := by decide +kernel
theorem dX1_run_141 : decode cX1_run 141 = .ok (.aload_n 0, 1) := by decide +kernel
theorem dX1_run_142 : decode cX1_run 142 = .ok (.iload 4, 2) := by decide +kernel
theorem dX1_run_144 : decode cX1_run 144 = .ok (.invokevirtual 58, 3) := by decide +kernel
theorem dX1_run_147 : decode cX1_run 147 = .ok (.iinc 5 1, 3) := by decide +kernel
theorem dX1_run_150 : decode cX1_run 150 = .ok (.goto (-87), 3) := by decide +kernel
theorem dX1_run_153 : decode cX1_run 153 = .ok (.aload_n 0, 1) := by decide +kernel
theorem dX1_run_154 : decode cX1_run 154 = .ok (.getfield 32, 3) := by decide +kernel
theorem dX1_run_157 : decode cX1_run 157 = .ok (.ireturn, 1) := by decide +kernel
set_option maxRecDepth 20000 in
theorem ggX1_comeTo_X2_columnOfFewest : GoodIn wsX1_comeTo wsX2_columnOfFewest := goodIn_r _ [13, 14, 15, 16, 17, 18, 19, 20, 21, 22, 38, 39, 40, 41, 42, 43, 44, 45] (by decide +kernel) (by decide +kernel)
set_option maxRecDepth 20000 in
theorem gX1_comeTo_X2_columnOfFewest : GoodIn wsX1_comeTo (wsV RX1 72 RX2 yX2_columnOfFewest wsX2_columnOfFewest) := goodIn_app (goodIn_r _ [9, 10, 11, 12] (by decide +kernel) (by decide +kernel)) ggX1_comeTo_X2_columnOfFewest
set_option maxRecDepth 20000 in
theorem ggX1_comeTo_X1_keepWay : GoodIn wsX1_comeTo wsX1_keepWay := goodIn_r _ [27, 28, 29, 30, 31, 32, 33, 34, 35, 36, 37] (by decide +kernel) (by decide +kernel)
set_option maxRecDepth 20000 in
theorem gX1_comeTo_X1_keepWay : GoodIn wsX1_comeTo (wsV RX1 75 RX1 yX1_keepWay wsX1_keepWay) := goodIn_app (goodIn_r _ [23, 24, 25, 26] (by decide +kernel) (by decide +kernel)) ggX1_comeTo_X1_keepWay
theorem dX1_comeTo_0 : decode cX1_comeTo 0 = .ok (.aload_n 0, 1) := by decide +kernel
theorem dX1_comeTo_1 : decode cX1_comeTo 1 = .ok (.dup, 1) := by decide +kernel
theorem dX1_comeTo_2 : decode cX1_comeTo 2 = .ok (.getfield 42, 3) := by decide +kernel
theorem dX1_comeTo_5 : decode cX1_comeTo 5 = .ok (.iconst 1, 1) := by decide +kernel
theorem dX1_comeTo_6 : decode cX1_comeTo 6 = .ok (.iadd, 1) := by decide +kernel
theorem dX1_comeTo_7 : decode cX1_comeTo 7 = .ok (.putfield 42, 3) := by decide +kernel
theorem dX1_comeTo_10 : decode cX1_comeTo 10 = .ok (.aload_n 0, 1) := by decide +kernel
theorem dX1_comeTo_11 : decode cX1_comeTo 11 = .ok (.getfield 18, 3) := by decide +kernel
theorem dX1_comeTo_14 : decode cX1_comeTo 14 = .ok (.iload_n 1, 1) := by decide +kernel
theorem dX1_comeTo_15 : decode cX1_comeTo 15 = .ok (.lconst 0, 1) := by decide +kernel
theorem dX1_comeTo_16 : decode cX1_comeTo 16 = .ok (.lastore, 1) := by decide +kernel
theorem dX1_comeTo_17 : decode cX1_comeTo 17 = .ok (.aload_n 0, 1) := by decide +kernel
theorem dX1_comeTo_18 : decode cX1_comeTo 18 = .ok (.getfield 42, 3) := by decide +kernel
theorem dX1_comeTo_21 : decode cX1_comeTo 21 = .ok (.ldc 63, 2) := by decide +kernel
theorem dX1_comeTo_23 : decode cX1_comeTo 23 = .ok (.if_icmp .lt 4, 3) := by decide +kernel
theorem dX1_comeTo_26 : decode cX1_comeTo 26 = .ok (.return_, 1) := by decide +kernel
theorem dX1_comeTo_27 : decode cX1_comeTo 27 = .ok (.aload_n 0, 1) := by decide +kernel
theorem dX1_comeTo_28 : decode cX1_comeTo 28 = .ok (.getfield 28, 3) := by decide +kernel
theorem dX1_comeTo_31 : decode cX1_comeTo 31 = .ok (.aload_n 0, 1) := by decide +kernel
theorem dX1_comeTo_32 : decode cX1_comeTo 32 = .ok (.getfield 21, 3) := by decide +kernel
theorem dX1_comeTo_35 : decode cX1_comeTo 35 = .ok (.iload_n 1, 1) := by decide +kernel
theorem dX1_comeTo_36 : decode cX1_comeTo 36 = .ok (.iaload, 1) := by decide +kernel
theorem dX1_comeTo_37 : decode cX1_comeTo 37 = .ok (.aload_n 0, 1) := by decide +kernel
theorem dX1_comeTo_38 : decode cX1_comeTo 38 = .ok (.getfield 15, 3) := by decide +kernel
theorem dX1_comeTo_41 : decode cX1_comeTo 41 = .ok (.iload_n 1, 1) := by decide +kernel
theorem dX1_comeTo_42 : decode cX1_comeTo 42 = .ok (.laload, 1) := by decide +kernel
theorem dX1_comeTo_43 : decode cX1_comeTo 43 = .ok (.invokevirtual 72, 3) := by decide +kernel
theorem dX1_comeTo_46 : decode cX1_comeTo 46 = .ok (.istore_n 2, 1) := by decide +kernel
theorem dX1_comeTo_47 : decode cX1_comeTo 47 = .ok (.iload_n 2, 1) := by decide +kernel
theorem dX1_comeTo_48 : decode cX1_comeTo 48 = .ok (.ifCond .ge 16, 3) := by decide +kernel
theorem dX1_comeTo_51 : decode cX1_comeTo 51 = .ok (.aload_n 0, 1) := by decide +kernel
theorem dX1_comeTo_52 : decode cX1_comeTo 52 = .ok (.aload_n 0, 1) := by decide +kernel
theorem dX1_comeTo_53 : decode cX1_comeTo 53 = .ok (.getfield 9, 3) := by decide +kernel
theorem dX1_comeTo_56 : decode cX1_comeTo 56 = .ok (.iload_n 1, 1) := by decide +kernel
theorem dX1_comeTo_57 : decode cX1_comeTo 57 = .ok (.laload, 1) := by decide +kernel
theorem dX1_comeTo_58 : decode cX1_comeTo 58 = .ok (.invokevirtual 75, 3) := by decide +kernel
theorem dX1_comeTo_61 : decode cX1_comeTo 61 = .ok (.goto 25, 3) := by decide +kernel
theorem dX1_comeTo_64 : decode cX1_comeTo 64 = .ok (.aload_n 0, 1) := by decide +kernel
theorem dX1_comeTo_65 : decode cX1_comeTo 65 = .ok (.getfield 18, 3) := by decide +kernel
theorem dX1_comeTo_68 : decode cX1_comeTo 68 = .ok (.iload_n 1, 1) := by decide +kernel
theorem dX1_comeTo_69 : decode cX1_comeTo 69 = .ok (.aload_n 0, 1) := by decide +kernel
theorem dX1_comeTo_70 : decode cX1_comeTo 70 = .ok (.getfield 15, 3) := by decide +kernel
theorem dX1_comeTo_73 : decode cX1_comeTo 73 = .ok (.iload_n 1, 1) := by decide +kernel
theorem dX1_comeTo_74 : decode cX1_comeTo 74 = .ok (.laload, 1) := by decide +kernel
theorem dX1_comeTo_75 : decode cX1_comeTo 75 = .ok (.aload_n 0, 1) := by decide +kernel
theorem dX1_comeTo_76 : decode cX1_comeTo 76 = .ok (.getfield 28, 3) := by decide +kernel
theorem dX1_comeTo_79 : decode cX1_comeTo 79 = .ok (.getfield 79, 3) := by decide +kernel
theorem dX1_comeTo_82 : decode cX1_comeTo 82 = .ok (.iload_n 2, 1) := by decide +kernel
theorem dX1_comeTo_83 : decode cX1_comeTo 83 = .ok (.laload, 1) := by decide +kernel
theorem dX1_comeTo_84 : decode cX1_comeTo 84 = .ok (.land, 1) := by decide +kernel
theorem dX1_comeTo_85 : decode cX1_comeTo 85 = .ok (.lastore, 1) := by decide +kernel
theorem dX1_comeTo_86 : decode cX1_comeTo 86 = .ok (.return_, 1) := by decide +kernel
theorem dX1_keepWay_0 : decode cX1_keepWay 0 = .ok (.aload_n 0, 1) := by decide +kernel
theorem dX1_keepWay_1 : decode cX1_keepWay 1 = .ok (.getfield 32, 3) := by decide +kernel
theorem dX1_keepWay_4 : decode cX1_keepWay 4 = .ok (.bipush 100, 2) := by decide +kernel
theorem dX1_keepWay_6 : decode cX1_keepWay 6 = .ok (.if_icmp .ge 13, 3) := by decide +kernel
theorem dX1_keepWay_9 : decode cX1_keepWay 9 = .ok (.aload_n 0, 1) := by decide +kernel
theorem dX1_keepWay_10 : decode cX1_keepWay 10 = .ok (.getfield 25, 3) := by decide +kernel
theorem dX1_keepWay_13 : decode cX1_keepWay 13 = .ok (.aload_n 0, 1) := by decide +kernel
theorem dX1_keepWay_14 : decode cX1_keepWay 14 = .ok (.getfield 32, 3) := by decide +kernel
theorem dX1_keepWay_17 : decode cX1_keepWay 17 = .ok (.lload_n 1, 1) := by decide +kernel
theorem dX1_keepWay_18 : decode cX1_keepWay 18 = .ok (.lastore, 1) := by decide +kernel
theorem dX1_keepWay_19 : decode cX1_keepWay 19 = .ok (.aload_n 0, 1) := by decide +kernel
theorem dX1_keepWay_20 : decode cX1_keepWay 20 = .ok (.dup, 1) := by decide +kernel
theorem dX1_keepWay_21 : decode cX1_keepWay 21 = .ok (.getfield 32, 3) := by decide +kernel
theorem dX1_keepWay_24 : decode cX1_keepWay 24 = .ok (.iconst 1, 1) := by decide +kernel
theorem dX1_keepWay_25 : decode cX1_keepWay 25 = .ok (.iadd, 1) := by decide +kernel
theorem dX1_keepWay_26 : decode cX1_keepWay 26 = .ok (.putfield 32, 3) := by decide +kernel
theorem dX1_keepWay_29 : decode cX1_keepWay 29 = .ok (.return_, 1) := by decide +kernel
set_option maxRecDepth 20000 in
theorem ggX1_lowestRow_J13_numberOfTrailingZeros_95d88 : GoodIn wsX1_lowestRow wsJ13_numberOfTrailingZeros_95d88 := goodIn_r _ [4, 5, 6, 7, 8, 9] (by decide +kernel) (by decide +kernel)
set_option maxRecDepth 20000 in
theorem gX1_lowestRow_J13_numberOfTrailingZeros_95d88 : GoodIn wsX1_lowestRow (va_wsS RX1 82 yJ13_numberOfTrailingZeros_95d88 wsJ13_numberOfTrailingZeros_95d88) := goodIn_app (goodIn_r _ [1, 2, 3] (by decide +kernel) (by decide +kernel)) ggX1_lowestRow_J13_numberOfTrailingZeros_95d88
theorem dX1_lowestRow_0 : decode cX1_lowestRow 0 = .ok (.lload_n 0, 1) := by decide +kernel
theorem dX1_lowestRow_1 : decode cX1_lowestRow 1 = .ok (.invokestatic 82, 3) := by decide +kernel
theorem dX1_lowestRow_4 : decode cX1_lowestRow 4 = .ok (.istore_n 2, 1) := by decide +kernel
theorem dX1_lowestRow_5 : decode cX1_lowestRow 5 = .ok (.iload_n 2, 1) := by decide +kernel
theorem dX1_lowestRow_6 : decode cX1_lowestRow 6 = .ok (.bipush 60, 2) := by decide +kernel
theorem dX1_lowestRow_8 : decode cX1_lowestRow 8 = .ok (.if_icmp .ge 7, 3) := by decide +kernel
theorem dX1_lowestRow_11 : decode cX1_lowestRow 11 = .ok (.iload_n 2, 1) := by decide +kernel
theorem dX1_lowestRow_12 : decode cX1_lowestRow 12 = .ok (.goto 4, 3) := by decide +kernel
theorem dX1_lowestRow_15 : decode cX1_lowestRow 15 = .ok (.iconst (-1), 1) := by decide +kernel
theorem dX1_lowestRow_16 : decode cX1_lowestRow 16 = .ok (.ireturn, 1) := by decide +kernel
set_option maxRecDepth 20000 in
theorem ggX1_chooseRow_X2_uncovered : GoodIn wsX1_chooseRow wsX2_uncovered := goodIn_r _ [13, 14, 15, 16, 17, 18, 19, 20, 21, 22, 23, 37, 38, 39, 40, 41, 42, 43, 44] (by decide +kernel) (by decide +kernel)
set_option maxRecDepth 20000 in
theorem gX1_chooseRow_X2_uncovered : GoodIn wsX1_chooseRow (wsV RX1 55 RX2 yX2_uncovered wsX2_uncovered) := goodIn_app (goodIn_r _ [9, 10, 11, 12] (by decide +kernel) (by decide +kernel)) ggX1_chooseRow_X2_uncovered
set_option maxRecDepth 20000 in
theorem ggX1_chooseRow_X2_rowsWithAny : GoodIn wsX1_chooseRow wsX2_rowsWithAny := goodIn_r _ [27, 28, 15, 37, 38, 39, 40, 41, 42, 43, 44] (by decide +kernel) (by decide +kernel)
set_option maxRecDepth 20000 in
theorem gX1_chooseRow_X2_rowsWithAny : GoodIn wsX1_chooseRow (wsV RX1 95 RX2 yX2_rowsWithAny wsX2_rowsWithAny) := goodIn_app (goodIn_r _ [24, 25, 26, 12] (by decide +kernel) (by decide +kernel)) ggX1_chooseRow_X2_rowsWithAny
theorem dX1_chooseRow_0 : decode cX1_chooseRow 0 = .ok (.lconst 1, 1) := by decide +kernel
theorem dX1_chooseRow_1 : decode cX1_chooseRow 1 = .ok (.iload_n 2, 1) := by decide +kernel
theorem dX1_chooseRow_2 : decode cX1_chooseRow 2 = .ok (.lshl, 1) := by decide +kernel
theorem dX1_chooseRow_3 : decode cX1_chooseRow 3 = .ok (.lstore_n 3, 1) := by decide +kernel
theorem dX1_chooseRow_4 : decode cX1_chooseRow 4 = .ok (.aload_n 0, 1) := by decide +kernel
theorem dX1_chooseRow_5 : decode cX1_chooseRow 5 = .ok (.getfield 18, 3) := by decide +kernel
theorem dX1_chooseRow_8 : decode cX1_chooseRow 8 = .ok (.iload_n 1, 1) := by decide +kernel
theorem dX1_chooseRow_9 : decode cX1_chooseRow 9 = .ok (.dup2, 1) := by decide +kernel
theorem dX1_chooseRow_10 : decode cX1_chooseRow 10 = .ok (.laload, 1) := by decide +kernel
theorem dX1_chooseRow_11 : decode cX1_chooseRow 11 = .ok (.lload_n 3, 1) := by decide +kernel
theorem dX1_chooseRow_12 : decode cX1_chooseRow 12 = .ok (.ldc2_w 87, 3) := by decide +kernel
theorem dX1_chooseRow_15 : decode cX1_chooseRow 15 = .ok (.lxor, 1) := by decide +kernel
theorem dX1_chooseRow_16 : decode cX1_chooseRow 16 = .ok (.land, 1) := by decide +kernel
theorem dX1_chooseRow_17 : decode cX1_chooseRow 17 = .ok (.lastore, 1) := by decide +kernel
theorem dX1_chooseRow_18 : decode cX1_chooseRow 18 = .ok (.aload_n 0, 1) := by decide +kernel
theorem dX1_chooseRow_19 : decode cX1_chooseRow 19 = .ok (.getfield 15, 3) := by decide +kernel
theorem dX1_chooseRow_22 : decode cX1_chooseRow 22 = .ok (.iload_n 1, 1) := by decide +kernel
theorem dX1_chooseRow_23 : decode cX1_chooseRow 23 = .ok (.dup2, 1) := by decide +kernel
theorem dX1_chooseRow_24 : decode cX1_chooseRow 24 = .ok (.laload, 1) := by decide +kernel
theorem dX1_chooseRow_25 : decode cX1_chooseRow 25 = .ok (.lload_n 3, 1) := by decide +kernel
theorem dX1_chooseRow_26 : decode cX1_chooseRow 26 = .ok (.ldc2_w 87, 3) := by decide +kernel
theorem dX1_chooseRow_29 : decode cX1_chooseRow 29 = .ok (.lxor, 1) := by decide +kernel
theorem dX1_chooseRow_30 : decode cX1_chooseRow 30 = .ok (.land, 1) := by decide +kernel
theorem dX1_chooseRow_31 : decode cX1_chooseRow 31 = .ok (.lastore, 1) := by decide +kernel
theorem dX1_chooseRow_32 : decode cX1_chooseRow 32 = .ok (.aload_n 0, 1) := by decide +kernel
theorem dX1_chooseRow_33 : decode cX1_chooseRow 33 = .ok (.getfield 9, 3) := by decide +kernel
theorem dX1_chooseRow_36 : decode cX1_chooseRow 36 = .ok (.iload_n 1, 1) := by decide +kernel
theorem dX1_chooseRow_37 : decode cX1_chooseRow 37 = .ok (.laload, 1) := by decide +kernel
theorem dX1_chooseRow_38 : decode cX1_chooseRow 38 = .ok (.lload_n 3, 1) := by decide +kernel
theorem dX1_chooseRow_39 : decode cX1_chooseRow 39 = .ok (.lor, 1) := by decide +kernel
theorem dX1_chooseRow_40 : decode cX1_chooseRow 40 = .ok (.lstore 5, 2) := by decide +kernel
theorem dX1_chooseRow_42 : decode cX1_chooseRow 42 = .ok (.aload_n 0, 1) := by decide +kernel
theorem dX1_chooseRow_43 : decode cX1_chooseRow 43 = .ok (.getfield 21, 3) := by decide +kernel
theorem dX1_chooseRow_46 : decode cX1_chooseRow 46 = .ok (.iload_n 1, 1) := by decide +kernel
theorem dX1_chooseRow_47 : decode cX1_chooseRow 47 = .ok (.iaload, 1) := by decide +kernel
theorem dX1_chooseRow_48 : decode cX1_chooseRow 48 = .ok (.aload_n 0, 1) := by decide +kernel
theorem dX1_chooseRow_49 : decode cX1_chooseRow 49 = .ok (.getfield 28, 3) := by decide +kernel
theorem dX1_chooseRow_52 : decode cX1_chooseRow 52 = .ok (.getfield 89, 3) := by decide +kernel
theorem dX1_chooseRow_55 : decode cX1_chooseRow 55 = .ok (.iload_n 2, 1) := by decide +kernel
theorem dX1_chooseRow_56 : decode cX1_chooseRow 56 = .ok (.iaload, 1) := by decide +kernel
theorem dX1_chooseRow_57 : decode cX1_chooseRow 57 = .ok (.iand, 1) := by decide +kernel
theorem dX1_chooseRow_58 : decode cX1_chooseRow 58 = .ok (.istore 7, 2) := by decide +kernel
theorem dX1_chooseRow_60 : decode cX1_chooseRow 60 = .ok (.iload 7, 2) := by decide +kernel
theorem dX1_chooseRow_62 : decode cX1_chooseRow 62 = .ok (.aload_n 0, 1) := by decide +kernel
theorem dX1_chooseRow_63 : decode cX1_chooseRow 63 = .ok (.getfield 28, 3) := by decide +kernel
theorem dX1_chooseRow_66 : decode cX1_chooseRow 66 = .ok (.iload 7, 2) := by decide +kernel
theorem dX1_chooseRow_68 : decode cX1_chooseRow 68 = .ok (.lload 5, 2) := by decide +kernel
theorem dX1_chooseRow_70 : decode cX1_chooseRow 70 = .ok (.invokevirtual 55, 3) := by decide +kernel
theorem dX1_chooseRow_73 : decode cX1_chooseRow 73 = .ok (.iconst (-1), 1) := by decide +kernel
theorem dX1_chooseRow_74 : decode cX1_chooseRow 74 = .ok (.ixor, 1) := by decide +kernel
theorem dX1_chooseRow_75 : decode cX1_chooseRow 75 = .ok (.iand, 1) := by decide +kernel
theorem dX1_chooseRow_76 : decode cX1_chooseRow 76 = .ok (.istore 8, 2) := by decide +kernel
theorem dX1_chooseRow_78 : decode cX1_chooseRow 78 = .ok (.aload_n 0, 1) := by decide +kernel
theorem dX1_chooseRow_79 : decode cX1_chooseRow 79 = .ok (.getfield 9, 3) := by decide +kernel
theorem dX1_chooseRow_82 : decode cX1_chooseRow 82 = .ok (.iload_n 1, 1) := by decide +kernel
theorem dX1_chooseRow_83 : decode cX1_chooseRow 83 = .ok (.iconst 1, 1) := by decide +kernel
theorem dX1_chooseRow_84 : decode cX1_chooseRow 84 = .ok (.iadd, 1) := by decide +kernel
theorem dX1_chooseRow_85 : decode cX1_chooseRow 85 = .ok (.lload 5, 2) := by decide +kernel
theorem dX1_chooseRow_87 : decode cX1_chooseRow 87 = .ok (.lastore, 1) := by decide +kernel
theorem dX1_chooseRow_88 : decode cX1_chooseRow 88 = .ok (.aload_n 0, 1) := by decide +kernel
theorem dX1_chooseRow_89 : decode cX1_chooseRow 89 = .ok (.getfield 21, 3) := by decide +kernel
theorem dX1_chooseRow_92 : decode cX1_chooseRow 92 = .ok (.iload_n 1, 1) := by decide +kernel
theorem dX1_chooseRow_93 : decode cX1_chooseRow 93 = .ok (.iconst 1, 1) := by decide +kernel
theorem dX1_chooseRow_94 : decode cX1_chooseRow 94 = .ok (.iadd, 1) := by decide +kernel
theorem dX1_chooseRow_95 : decode cX1_chooseRow 95 = .ok (.aload_n 0, 1) := by decide +kernel
theorem dX1_chooseRow_96 : decode cX1_chooseRow 96 = .ok (.getfield 21, 3) := by decide +kernel
theorem dX1_chooseRow_99 : decode cX1_chooseRow 99 = .ok (.iload_n 1, 1) := by decide +kernel
theorem dX1_chooseRow_100 : decode cX1_chooseRow 100 = .ok (.iaload, 1) := by decide +kernel
theorem dX1_chooseRow_101 : decode cX1_chooseRow 101 = .ok (.iload 8, 2) := by decide +kernel
theorem dX1_chooseRow_103 : decode cX1_chooseRow 103 = .ok (.iconst (-1), 1) := by decide +kernel
theorem dX1_chooseRow_104 : decode cX1_chooseRow 104 = .ok (.ixor, 1) := by decide +kernel
theorem dX1_chooseRow_105 : decode cX1_chooseRow 105 = .ok (.iand, 1) := by decide +kernel
theorem dX1_chooseRow_106 : decode cX1_chooseRow 106 = .ok (.iastore, 1) := by decide +kernel
theorem dX1_chooseRow_107 : decode cX1_chooseRow 107 = .ok (.aload_n 0, 1) := by decide +kernel
theorem dX1_chooseRow_108 : decode cX1_chooseRow 108 = .ok (.getfield 15, 3) := by decide +kernel
theorem dX1_chooseRow_111 : decode cX1_chooseRow 111 = .ok (.iload_n 1, 1) := by decide +kernel
theorem dX1_chooseRow_112 : decode cX1_chooseRow 112 = .ok (.iconst 1, 1) := by decide +kernel
theorem dX1_chooseRow_113 : decode cX1_chooseRow 113 = .ok (.iadd, 1) := by decide +kernel
theorem dX1_chooseRow_114 : decode cX1_chooseRow 114 = .ok (.aload_n 0, 1) := by decide +kernel
theorem dX1_chooseRow_115 : decode cX1_chooseRow 115 = .ok (.getfield 15, 3) := by decide +kernel
theorem dX1_chooseRow_118 : decode cX1_chooseRow 118 = .ok (.iload_n 1, 1) := by decide +kernel
theorem dX1_chooseRow_119 : decode cX1_chooseRow 119 = .ok (.laload, 1) := by decide +kernel
theorem dX1_chooseRow_120 : decode cX1_chooseRow 120 = .ok (.aload_n 0, 1) := by decide +kernel
theorem dX1_chooseRow_121 : decode cX1_chooseRow 121 = .ok (.getfield 28, 3) := by decide +kernel
theorem dX1_chooseRow_124 : decode cX1_chooseRow 124 = .ok (.getfield 92, 3) := by decide +kernel
theorem dX1_chooseRow_127 : decode cX1_chooseRow 127 = .ok (.iload_n 2, 1) := by decide +kernel
theorem dX1_chooseRow_128 : decode cX1_chooseRow 128 = .ok (.laload, 1) := by decide +kernel
theorem dX1_chooseRow_129 : decode cX1_chooseRow 129 = .ok (.ldc2_w 87, 3) := by decide +kernel
theorem dX1_chooseRow_132 : decode cX1_chooseRow 132 = .ok (.lxor, 1) := by decide +kernel
theorem dX1_chooseRow_133 : decode cX1_chooseRow 133 = .ok (.land, 1) := by decide +kernel
theorem dX1_chooseRow_134 : decode cX1_chooseRow 134 = .ok (.aload_n 0, 1) := by decide +kernel
theorem dX1_chooseRow_135 : decode cX1_chooseRow 135 = .ok (.getfield 28, 3) := by decide +kernel
theorem dX1_chooseRow_138 : decode cX1_chooseRow 138 = .ok (.iload 8, 2) := by decide +kernel
theorem dX1_chooseRow_140 : decode cX1_chooseRow 140 = .ok (.invokevirtual 95, 3) := by decide +kernel
theorem dX1_chooseRow_143 : decode cX1_chooseRow 143 = .ok (.ldc2_w 87, 3) := by decide +kernel
theorem dX1_chooseRow_146 : decode cX1_chooseRow 146 = .ok (.lxor, 1) := by decide +kernel
theorem dX1_chooseRow_147 : decode cX1_chooseRow 147 = .ok (.land, 1) := by decide +kernel
theorem dX1_chooseRow_148 : decode cX1_chooseRow 148 = .ok (.lastore, 1) := by decide +kernel
theorem dX1_chooseRow_149 : decode cX1_chooseRow 149 = .ok (.return_, 1) := by decide +kernel
