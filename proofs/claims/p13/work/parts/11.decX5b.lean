theorem dX5_placed_0 : decode cX5_placed 0 = .ok (.iconst 0, 1) := by decide +kernel
theorem dX5_placed_1 : decode cX5_placed 1 = .ok (.istore 9, 2) := by decide +kernel
theorem dX5_placed_3 : decode cX5_placed 3 = .ok (.iconst 0, 1) := by decide +kernel
theorem dX5_placed_4 : decode cX5_placed 4 = .ok (.istore 10, 2) := by decide +kernel
theorem dX5_placed_6 : decode cX5_placed 6 = .ok (.iload 10, 2) := by decide +kernel
theorem dX5_placed_8 : decode cX5_placed 8 = .ok (.aload_n 0, 1) := by decide +kernel
theorem dX5_placed_9 : decode cX5_placed 9 = .ok (.getfield 104, 3) := by decide +kernel
theorem dX5_placed_12 : decode cX5_placed 12 = .ok (.if_icmp .ge 136, 3) := by decide +kernel
theorem dX5_placed_15 : decode cX5_placed 15 = .ok (.aload_n 0, 1) := by decide +kernel
theorem dX5_placed_16 : decode cX5_placed 16 = .ok (.getfield 19, 3) := by decide +kernel
theorem dX5_placed_19 : decode cX5_placed 19 = .ok (.iload 10, 2) := by decide +kernel
theorem dX5_placed_21 : decode cX5_placed 21 = .ok (.iaload, 1) := by decide +kernel
theorem dX5_placed_22 : decode cX5_placed 22 = .ok (.iload_n 1, 1) := by decide +kernel
theorem dX5_placed_23 : decode cX5_placed 23 = .ok (.iload_n 2, 1) := by decide +kernel
theorem dX5_placed_24 : decode cX5_placed 24 = .ok (.iload_n 1, 1) := by decide +kernel
theorem dX5_placed_25 : decode cX5_placed 25 = .ok (.iload_n 2, 1) := by decide +kernel
theorem dX5_placed_26 : decode cX5_placed 26 = .ok (.invokestatic 107, 3) := by decide +kernel
theorem dX5_placed_29 : decode cX5_placed 29 = .ok (.iconst 0, 1) := by decide +kernel
theorem dX5_placed_30 : decode cX5_placed 30 = .ok (.invokestatic 111, 3) := by decide +kernel
theorem dX5_placed_33 : decode cX5_placed 33 = .ok (.iload_n 3, 1) := by decide +kernel
theorem dX5_placed_34 : decode cX5_placed 34 = .ok (.iadd, 1) := by decide +kernel
theorem dX5_placed_35 : decode cX5_placed 35 = .ok (.istore 11, 2) := by decide +kernel
theorem dX5_placed_37 : decode cX5_placed 37 = .ok (.aload_n 0, 1) := by decide +kernel
theorem dX5_placed_38 : decode cX5_placed 38 = .ok (.getfield 19, 3) := by decide +kernel
theorem dX5_placed_41 : decode cX5_placed 41 = .ok (.iload 10, 2) := by decide +kernel
theorem dX5_placed_43 : decode cX5_placed 43 = .ok (.iaload, 1) := by decide +kernel
theorem dX5_placed_44 : decode cX5_placed 44 = .ok (.iload_n 1, 1) := by decide +kernel
theorem dX5_placed_45 : decode cX5_placed 45 = .ok (.iload_n 2, 1) := by decide +kernel
theorem dX5_placed_46 : decode cX5_placed 46 = .ok (.iload_n 1, 1) := by decide +kernel
theorem dX5_placed_47 : decode cX5_placed 47 = .ok (.iload_n 2, 1) := by decide +kernel
theorem dX5_placed_48 : decode cX5_placed 48 = .ok (.invokestatic 107, 3) := by decide +kernel
theorem dX5_placed_51 : decode cX5_placed 51 = .ok (.iconst 1, 1) := by decide +kernel
theorem dX5_placed_52 : decode cX5_placed 52 = .ok (.invokestatic 111, 3) := by decide +kernel
theorem dX5_placed_55 : decode cX5_placed 55 = .ok (.iload 4, 2) := by decide +kernel
theorem dX5_placed_57 : decode cX5_placed 57 = .ok (.iadd, 1) := by decide +kernel
theorem dX5_placed_58 : decode cX5_placed 58 = .ok (.istore 12, 2) := by decide +kernel
theorem dX5_placed_60 : decode cX5_placed 60 = .ok (.aload_n 0, 1) := by decide +kernel
theorem dX5_placed_61 : decode cX5_placed 61 = .ok (.getfield 19, 3) := by decide +kernel
theorem dX5_placed_64 : decode cX5_placed 64 = .ok (.iload 10, 2) := by decide +kernel
theorem dX5_placed_66 : decode cX5_placed 66 = .ok (.iaload, 1) := by decide +kernel
theorem dX5_placed_67 : decode cX5_placed 67 = .ok (.iload_n 1, 1) := by decide +kernel
theorem dX5_placed_68 : decode cX5_placed 68 = .ok (.iload_n 2, 1) := by decide +kernel
theorem dX5_placed_69 : decode cX5_placed 69 = .ok (.iload_n 1, 1) := by decide +kernel
theorem dX5_placed_70 : decode cX5_placed 70 = .ok (.iload_n 2, 1) := by decide +kernel
theorem dX5_placed_71 : decode cX5_placed 71 = .ok (.invokestatic 107, 3) := by decide +kernel
theorem dX5_placed_74 : decode cX5_placed 74 = .ok (.iconst 2, 1) := by decide +kernel
theorem dX5_placed_75 : decode cX5_placed 75 = .ok (.invokestatic 111, 3) := by decide +kernel
theorem dX5_placed_78 : decode cX5_placed 78 = .ok (.iload 5, 2) := by decide +kernel
theorem dX5_placed_80 : decode cX5_placed 80 = .ok (.iadd, 1) := by decide +kernel
theorem dX5_placed_81 : decode cX5_placed 81 = .ok (.istore 13, 2) := by decide +kernel
theorem dX5_placed_83 : decode cX5_placed 83 = .ok (.iload 11, 2) := by decide +kernel
theorem dX5_placed_85 : decode cX5_placed 85 = .ok (.ifCond .lt 34, 3) := by decide +kernel
theorem dX5_placed_88 : decode cX5_placed 88 = .ok (.iload 11, 2) := by decide +kernel
theorem dX5_placed_90 : decode cX5_placed 90 = .ok (.iload 6, 2) := by decide +kernel
theorem dX5_placed_92 : decode cX5_placed 92 = .ok (.if_icmp .ge 27, 3) := by decide +kernel
theorem dX5_placed_95 : decode cX5_placed 95 = .ok (.iload 12, 2) := by decide +kernel
theorem dX5_placed_97 : decode cX5_placed 97 = .ok (.ifCond .lt 22, 3) := by decide +kernel
theorem dX5_placed_100 : decode cX5_placed 100 = .ok (.iload 12, 2) := by decide +kernel
theorem dX5_placed_102 : decode cX5_placed 102 = .ok (.iload 7, 2) := by decide +kernel
theorem dX5_placed_104 : decode cX5_placed 104 = .ok (.if_icmp .ge 15, 3) := by decide +kernel
theorem dX5_placed_107 : decode cX5_placed 107 = .ok (.iload 13, 2) := by decide +kernel
theorem dX5_placed_109 : decode cX5_placed 109 = .ok (.ifCond .lt 10, 3) := by decide +kernel
theorem dX5_placed_112 : decode cX5_placed 112 = .ok (.iload 13, 2) := by decide +kernel
theorem dX5_placed_114 : decode cX5_placed 114 = .ok (.iload 8, 2) := by decide +kernel
theorem dX5_placed_116 : decode cX5_placed 116 = .ok (.if_icmp .lt 5, 3) := by decide +kernel
theorem dX5_placed_119 : decode cX5_placed 119 = .ok (.iconst (-1), 1) := by decide +kernel
theorem dX5_placed_120 : decode cX5_placed 120 = .ok (.ireturn, 1) := by decide +kernel
theorem dX5_placed_121 : decode cX5_placed 121 = .ok (.iload 9, 2) := by decide +kernel
theorem dX5_placed_123 : decode cX5_placed 123 = .ok (.iconst 1, 1) := by decide +kernel
theorem dX5_placed_124 : decode cX5_placed 124 = .ok (.iload 11, 2) := by decide +kernel
theorem dX5_placed_126 : decode cX5_placed 126 = .ok (.iload 6, 2) := by decide +kernel
theorem dX5_placed_128 : decode cX5_placed 128 = .ok (.iload 12, 2) := by decide +kernel
theorem dX5_placed_130 : decode cX5_placed 130 = .ok (.iload 7, 2) := by decide +kernel
theorem dX5_placed_132 : decode cX5_placed 132 = .ok (.iload 13, 2) := by decide +kernel
theorem dX5_placed_134 : decode cX5_placed 134 = .ok (.imul, 1) := by decide +kernel
theorem dX5_placed_135 : decode cX5_placed 135 = .ok (.iadd, 1) := by decide +kernel
theorem dX5_placed_136 : decode cX5_placed 136 = .ok (.imul, 1) := by decide +kernel
theorem dX5_placed_137 : decode cX5_placed 137 = .ok (.iadd, 1) := by decide +kernel
theorem dX5_placed_138 : decode cX5_placed 138 = .ok (.ishl, 1) := by decide +kernel
theorem dX5_placed_139 : decode cX5_placed 139 = .ok (.ior, 1) := by decide +kernel
theorem dX5_placed_140 : decode cX5_placed 140 = .ok (.istore 9, 2) := by decide +kernel
theorem dX5_placed_142 : decode cX5_placed 142 = .ok (.iinc 10 1, 3) := by decide +kernel
theorem dX5_placed_145 : decode cX5_placed 145 = .ok (.goto (-139), 3) := by decide +kernel
theorem dX5_placed_148 : decode cX5_placed 148 = .ok (.iload 9, 2) := by decide +kernel
theorem dX5_placed_150 : decode cX5_placed 150 = .ok (.ireturn, 1) := by decide +kernel
theorem dX5_lays_0 : decode cX5_lays 0 = .ok (.iconst 0, 1) := by decide +kernel
theorem dX5_lays_1 : decode cX5_lays 1 = .ok (.istore_n 2, 1) := by decide +kernel
theorem dX5_lays_2 : decode cX5_lays 2 = .ok (.iload_n 2, 1) := by decide +kernel
theorem dX5_lays_3 : decode cX5_lays 3 = .ok (.aload_n 0, 1) := by decide +kernel
theorem dX5_lays_4 : decode cX5_lays 4 = .ok (.getfield 115, 3) := by decide +kernel
theorem dX5_lays_7 : decode cX5_lays 7 = .ok (.if_icmp .ge 19, 3) := by decide +kernel
theorem dX5_lays_10 : decode cX5_lays 10 = .ok (.aload_n 0, 1) := by decide +kernel
theorem dX5_lays_11 : decode cX5_lays 11 = .ok (.getfield 22, 3) := by decide +kernel
theorem dX5_lays_14 : decode cX5_lays 14 = .ok (.iload_n 2, 1) := by decide +kernel
theorem dX5_lays_15 : decode cX5_lays 15 = .ok (.iaload, 1) := by decide +kernel
theorem dX5_lays_16 : decode cX5_lays 16 = .ok (.iload_n 1, 1) := by decide +kernel
theorem dX5_lays_17 : decode cX5_lays 17 = .ok (.if_icmp .ge 9, 3) := by decide +kernel
theorem dX5_lays_20 : decode cX5_lays 20 = .ok (.iinc 2 1, 3) := by decide +kernel
theorem dX5_lays_23 : decode cX5_lays 23 = .ok (.goto (-21), 3) := by decide +kernel
theorem dX5_lays_26 : decode cX5_lays 26 = .ok (.iload_n 2, 1) := by decide +kernel
theorem dX5_lays_27 : decode cX5_lays 27 = .ok (.aload_n 0, 1) := by decide +kernel
theorem dX5_lays_28 : decode cX5_lays 28 = .ok (.getfield 115, 3) := by decide +kernel
theorem dX5_lays_31 : decode cX5_lays 31 = .ok (.if_icmp .ge 15, 3) := by decide +kernel
theorem dX5_lays_34 : decode cX5_lays 34 = .ok (.aload_n 0, 1) := by decide +kernel
theorem dX5_lays_35 : decode cX5_lays 35 = .ok (.getfield 22, 3) := by decide +kernel
theorem dX5_lays_38 : decode cX5_lays 38 = .ok (.iload_n 2, 1) := by decide +kernel
theorem dX5_lays_39 : decode cX5_lays 39 = .ok (.iaload, 1) := by decide +kernel
theorem dX5_lays_40 : decode cX5_lays 40 = .ok (.iload_n 1, 1) := by decide +kernel
theorem dX5_lays_41 : decode cX5_lays 41 = .ok (.if_icmp .ne 5, 3) := by decide +kernel
theorem dX5_lays_44 : decode cX5_lays 44 = .ok (.iconst 1, 1) := by decide +kernel
theorem dX5_lays_45 : decode cX5_lays 45 = .ok (.ireturn, 1) := by decide +kernel
theorem dX5_lays_46 : decode cX5_lays 46 = .ok (.aload_n 0, 1) := by decide +kernel
theorem dX5_lays_47 : decode cX5_lays 47 = .ok (.getfield 115, 3) := by decide +kernel
theorem dX5_lays_50 : decode cX5_lays 50 = .ok (.bipush 60, 2) := by decide +kernel
theorem dX5_lays_52 : decode cX5_lays 52 = .ok (.if_icmp .ne 5, 3) := by decide +kernel
theorem dX5_lays_55 : decode cX5_lays 55 = .ok (.iconst 0, 1) := by decide +kernel
theorem dX5_lays_56 : decode cX5_lays 56 = .ok (.ireturn, 1) := by decide +kernel
theorem dX5_lays_57 : decode cX5_lays 57 = .ok (.aload_n 0, 1) := by decide +kernel
theorem dX5_lays_58 : decode cX5_lays 58 = .ok (.getfield 115, 3) := by decide +kernel
theorem dX5_lays_61 : decode cX5_lays 61 = .ok (.istore_n 3, 1) := by decide +kernel
theorem dX5_lays_62 : decode cX5_lays 62 = .ok (.iload_n 3, 1) := by decide +kernel
theorem dX5_lays_63 : decode cX5_lays 63 = .ok (.iload_n 2, 1) := by decide +kernel
theorem dX5_lays_64 : decode cX5_lays 64 = .ok (.if_icmp .le 23, 3) := by decide +kernel
theorem dX5_lays_67 : decode cX5_lays 67 = .ok (.aload_n 0, 1) := by decide +kernel
theorem dX5_lays_68 : decode cX5_lays 68 = .ok (.getfield 22, 3) := by decide +kernel
theorem dX5_lays_71 : decode cX5_lays 71 = .ok (.iload_n 3, 1) := by decide +kernel
theorem dX5_lays_72 : decode cX5_lays 72 = .ok (.aload_n 0, 1) := by decide +kernel
theorem dX5_lays_73 : decode cX5_lays 73 = .ok (.getfield 22, 3) := by decide +kernel
theorem dX5_lays_76 : decode cX5_lays 76 = .ok (.iload_n 3, 1) := by decide +kernel
theorem dX5_lays_77 : decode cX5_lays 77 = .ok (.iconst 1, 1) := by decide +kernel
theorem dX5_lays_78 : decode cX5_lays 78 = .ok (.isub, 1) := by decide +kernel
theorem dX5_lays_79 : decode cX5_lays 79 = .ok (.iaload, 1) := by decide +kernel
theorem dX5_lays_80 : decode cX5_lays 80 = .ok (.iastore, 1) := by decide +kernel
theorem dX5_lays_81 : decode cX5_lays 81 = .ok (.iinc 3 (-1), 3) := by decide +kernel
theorem dX5_lays_84 : decode cX5_lays 84 = .ok (.goto (-22), 3) := by decide +kernel
theorem dX5_lays_87 : decode cX5_lays 87 = .ok (.aload_n 0, 1) := by decide +kernel
theorem dX5_lays_88 : decode cX5_lays 88 = .ok (.getfield 22, 3) := by decide +kernel
theorem dX5_lays_91 : decode cX5_lays 91 = .ok (.iload_n 2, 1) := by decide +kernel
theorem dX5_lays_92 : decode cX5_lays 92 = .ok (.iload_n 1, 1) := by decide +kernel
theorem dX5_lays_93 : decode cX5_lays 93 = .ok (.iastore, 1) := by decide +kernel
theorem dX5_lays_94 : decode cX5_lays 94 = .ok (.aload_n 0, 1) := by decide +kernel
theorem dX5_lays_95 : decode cX5_lays 95 = .ok (.dup, 1) := by decide +kernel
theorem dX5_lays_96 : decode cX5_lays 96 = .ok (.getfield 115, 3) := by decide +kernel
theorem dX5_lays_99 : decode cX5_lays 99 = .ok (.iconst 1, 1) := by decide +kernel
theorem dX5_lays_100 : decode cX5_lays 100 = .ok (.iadd, 1) := by decide +kernel
theorem dX5_lays_101 : decode cX5_lays 101 = .ok (.putfield 115, 3) := by decide +kernel
theorem dX5_lays_104 : decode cX5_lays 104 = .ok (.iconst 1, 1) := by decide +kernel
theorem dX5_lays_105 : decode cX5_lays 105 = .ok (.ireturn, 1) := by decide +kernel
set_option maxRecDepth 20000 in
theorem ggX5_layAll_X5_isDue : GoodIn wsX5_layAll wsX5_isDue := goodIn_r _ [5, 6, 7, 4, 8] (by decide +kernel) (by decide +kernel)
set_option maxRecDepth 20000 in
theorem gX5_layAll_X5_isDue : GoodIn wsX5_layAll (va_wsS RX5 118 yX5_isDue wsX5_isDue) := goodIn_app (goodIn_r _ [2, 3, 4] (by decide +kernel) (by decide +kernel)) ggX5_layAll_X5_isDue
set_option maxRecDepth 20000 in
theorem ggX5_layAll_X5_placed : GoodIn wsX5_layAll wsX5_placed := goodIn_r _ [12, 13, 14, 6, 7, 4, 8, 15, 16, 17, 23, 24, 25, 26, 27, 28, 29, 30, 31, 32, 33, 34, 35, 36, 37, 38, 39, 40, 41, 42, 43, 44, 45, 46, 47, 48, 49, 50, 51, 52, 53, 54, 55] (by decide +kernel) (by decide +kernel)
set_option maxRecDepth 20000 in
theorem gX5_layAll_X5_placed : GoodIn wsX5_layAll (wsV RX5 122 RX5 yX5_placed wsX5_placed) := goodIn_app (goodIn_r _ [9, 10, 11, 4] (by decide +kernel) (by decide +kernel)) ggX5_layAll_X5_placed
set_option maxRecDepth 20000 in
theorem ggX5_layAll_X5_lays : GoodIn wsX5_layAll wsX5_lays := goodIn_r _ [21, 1, 22, 23, 24, 25, 26, 27, 28, 29, 30, 31, 32, 33, 34, 35, 36, 37, 38, 39, 40, 41, 42, 43, 44, 45, 46, 47, 48, 49, 50, 51, 52, 53, 54, 55] (by decide +kernel) (by decide +kernel)
set_option maxRecDepth 20000 in
theorem gX5_layAll_X5_lays : GoodIn wsX5_layAll (wsV RX5 126 RX5 yX5_lays wsX5_lays) := goodIn_app (goodIn_r _ [18, 19, 20, 4] (by decide +kernel) (by decide +kernel)) ggX5_layAll_X5_lays
theorem dX5_layAll_0 : decode cX5_layAll 0 = .ok (.aload_n 0, 1) := by decide +kernel
theorem dX5_layAll_1 : decode cX5_layAll 1 = .ok (.iconst 0, 1) := by decide +kernel
theorem dX5_layAll_2 : decode cX5_layAll 2 = .ok (.putfield 115, 3) := by decide +kernel
theorem dX5_layAll_5 : decode cX5_layAll 5 = .ok (.iconst 0, 1) := by decide +kernel
theorem dX5_layAll_6 : decode cX5_layAll 6 = .ok (.istore 5, 2) := by decide +kernel
theorem dX5_layAll_8 : decode cX5_layAll 8 = .ok (.iload 5, 2) := by decide +kernel
theorem dX5_layAll_10 : decode cX5_layAll 10 = .ok (.bipush 6, 2) := by decide +kernel
theorem dX5_layAll_12 : decode cX5_layAll 12 = .ok (.if_icmp .ge 129, 3) := by decide +kernel
theorem dX5_layAll_15 : decode cX5_layAll 15 = .ok (.iconst 0, 1) := by decide +kernel
theorem dX5_layAll_16 : decode cX5_layAll 16 = .ok (.istore 6, 2) := by decide +kernel
theorem dX5_layAll_18 : decode cX5_layAll 18 = .ok (.iload 6, 2) := by decide +kernel
theorem dX5_layAll_20 : decode cX5_layAll 20 = .ok (.bipush 6, 2) := by decide +kernel
theorem dX5_layAll_22 : decode cX5_layAll 22 = .ok (.if_icmp .ge 113, 3) := by decide +kernel
theorem dX5_layAll_25 : decode cX5_layAll 25 = .ok (.iload 5, 2) := by decide +kernel
theorem dX5_layAll_27 : decode cX5_layAll 27 = .ok (.iload 6, 2) := by decide +kernel
theorem dX5_layAll_29 : decode cX5_layAll 29 = .ok (.iload 4, 2) := by decide +kernel
theorem dX5_layAll_31 : decode cX5_layAll 31 = .ok (.invokestatic 118, 3) := by decide +kernel
theorem dX5_layAll_34 : decode cX5_layAll 34 = .ok (.ifCond .ne 6, 3) := by decide +kernel
theorem dX5_layAll_37 : decode cX5_layAll 37 = .ok (.goto 92, 3) := by decide +kernel
theorem dX5_layAll_40 : decode cX5_layAll 40 = .ok (.bipush (-2), 2) := by decide +kernel
theorem dX5_layAll_42 : decode cX5_layAll 42 = .ok (.istore 7, 2) := by decide +kernel
theorem dX5_layAll_44 : decode cX5_layAll 44 = .ok (.iload 7, 2) := by decide +kernel
theorem dX5_layAll_46 : decode cX5_layAll 46 = .ok (.iload_n 3, 1) := by decide +kernel
theorem dX5_layAll_47 : decode cX5_layAll 47 = .ok (.iconst 1, 1) := by decide +kernel
theorem dX5_layAll_48 : decode cX5_layAll 48 = .ok (.iadd, 1) := by decide +kernel
theorem dX5_layAll_49 : decode cX5_layAll 49 = .ok (.if_icmp .gt 80, 3) := by decide +kernel
theorem dX5_layAll_52 : decode cX5_layAll 52 = .ok (.bipush (-2), 2) := by decide +kernel
theorem dX5_layAll_54 : decode cX5_layAll 54 = .ok (.istore 8, 2) := by decide +kernel
theorem dX5_layAll_56 : decode cX5_layAll 56 = .ok (.iload 8, 2) := by decide +kernel
theorem dX5_layAll_58 : decode cX5_layAll 58 = .ok (.iload_n 2, 1) := by decide +kernel
theorem dX5_layAll_59 : decode cX5_layAll 59 = .ok (.iconst 1, 1) := by decide +kernel
theorem dX5_layAll_60 : decode cX5_layAll 60 = .ok (.iadd, 1) := by decide +kernel
theorem dX5_layAll_61 : decode cX5_layAll 61 = .ok (.if_icmp .gt 62, 3) := by decide +kernel
theorem dX5_layAll_64 : decode cX5_layAll 64 = .ok (.bipush (-2), 2) := by decide +kernel
theorem dX5_layAll_66 : decode cX5_layAll 66 = .ok (.istore 9, 2) := by decide +kernel
theorem dX5_layAll_68 : decode cX5_layAll 68 = .ok (.iload 9, 2) := by decide +kernel
theorem dX5_layAll_70 : decode cX5_layAll 70 = .ok (.iload_n 1, 1) := by decide +kernel
theorem dX5_layAll_71 : decode cX5_layAll 71 = .ok (.iconst 1, 1) := by decide +kernel
theorem dX5_layAll_72 : decode cX5_layAll 72 = .ok (.iadd, 1) := by decide +kernel
theorem dX5_layAll_73 : decode cX5_layAll 73 = .ok (.if_icmp .gt 44, 3) := by decide +kernel
theorem dX5_layAll_76 : decode cX5_layAll 76 = .ok (.aload_n 0, 1) := by decide +kernel
theorem dX5_layAll_77 : decode cX5_layAll 77 = .ok (.iload 5, 2) := by decide +kernel
theorem dX5_layAll_79 : decode cX5_layAll 79 = .ok (.iload 6, 2) := by decide +kernel
theorem dX5_layAll_81 : decode cX5_layAll 81 = .ok (.iload 9, 2) := by decide +kernel
theorem dX5_layAll_83 : decode cX5_layAll 83 = .ok (.iload 8, 2) := by decide +kernel
theorem dX5_layAll_85 : decode cX5_layAll 85 = .ok (.iload 7, 2) := by decide +kernel
theorem dX5_layAll_87 : decode cX5_layAll 87 = .ok (.iload_n 1, 1) := by decide +kernel
theorem dX5_layAll_88 : decode cX5_layAll 88 = .ok (.iload_n 2, 1) := by decide +kernel
theorem dX5_layAll_89 : decode cX5_layAll 89 = .ok (.iload_n 3, 1) := by decide +kernel
theorem dX5_layAll_90 : decode cX5_layAll 90 = .ok (.invokevirtual 122, 3) := by decide +kernel
theorem dX5_layAll_93 : decode cX5_layAll 93 = .ok (.istore 10, 2) := by decide +kernel
theorem dX5_layAll_95 : decode cX5_layAll 95 = .ok (.iload 10, 2) := by decide +kernel
theorem dX5_layAll_97 : decode cX5_layAll 97 = .ok (.ifCond .lt 14, 3) := by decide +kernel
theorem dX5_layAll_100 : decode cX5_layAll 100 = .ok (.aload_n 0, 1) := by decide +kernel
theorem dX5_layAll_101 : decode cX5_layAll 101 = .ok (.iload 10, 2) := by decide +kernel
theorem dX5_layAll_103 : decode cX5_layAll 103 = .ok (.invokevirtual 126, 3) := by decide +kernel
theorem dX5_layAll_106 : decode cX5_layAll 106 = .ok (.ifCond .ne 5, 3) := by decide +kernel
theorem dX5_layAll_109 : decode cX5_layAll 109 = .ok (.iconst 0, 1) := by decide +kernel
theorem dX5_layAll_110 : decode cX5_layAll 110 = .ok (.ireturn, 1) := by decide +kernel
theorem dX5_layAll_111 : decode cX5_layAll 111 = .ok (.iinc 9 1, 3) := by decide +kernel
theorem dX5_layAll_114 : decode cX5_layAll 114 = .ok (.goto (-46), 3) := by decide +kernel
theorem dX5_layAll_117 : decode cX5_layAll 117 = .ok (.iinc 8 1, 3) := by decide +kernel
theorem dX5_layAll_120 : decode cX5_layAll 120 = .ok (.goto (-64), 3) := by decide +kernel
theorem dX5_layAll_123 : decode cX5_layAll 123 = .ok (.iinc 7 1, 3) := by decide +kernel
theorem dX5_layAll_126 : decode cX5_layAll 126 = .ok (.goto (-82), 3) := by decide +kernel
theorem dX5_layAll_129 : decode cX5_layAll 129 = .ok (.iinc 6 1, 3) := by decide +kernel
theorem dX5_layAll_132 : decode cX5_layAll 132 = .ok (.goto (-114), 3) := by decide +kernel
theorem dX5_layAll_135 : decode cX5_layAll 135 = .ok (.iinc 5 1, 3) := by decide +kernel
theorem dX5_layAll_138 : decode cX5_layAll 138 = .ok (.goto (-130), 3) := by decide +kernel
theorem dX5_layAll_141 : decode cX5_layAll 141 = .ok (.iconst 1, 1) := by decide +kernel
theorem dX5_layAll_142 : decode cX5_layAll 142 = .ok (.ireturn, 1) := by decide +kernel
set_option maxRecDepth 20000 in
theorem ggX5_lay_X5_isColumn : GoodIn wsX5_lay wsX5_isColumn := goodIn_r _ [11, 1, 46, 47, 48, 49, 50, 51, 52, 53, 54, 55, 56, 57, 58, 59, 60, 61, 62, 63, 64, 65, 66, 67, 68, 69, 70, 71, 72, 73, 74, 75, 76, 77, 78] (by decide +kernel) (by decide +kernel)
set_option maxRecDepth 20000 in
theorem gX5_lay_X5_isColumn : GoodIn wsX5_lay (wsV RX5 79 RX5 yX5_isColumn wsX5_isColumn) := goodIn_app (goodIn_r _ [7, 8, 9, 10] (by decide +kernel) (by decide +kernel)) ggX5_lay_X5_isColumn
set_option maxRecDepth 20000 in
theorem ggX5_lay_X5_throwsIf : GoodIn wsX5_lay wsX5_throwsIf := goodIn_r _ [15, 16, 46, 47, 48, 49, 50, 51, 52, 53, 54, 55, 56, 57, 58, 59, 60, 61, 62, 63, 64, 65, 66, 67, 68, 69, 70, 71, 72, 73, 74, 75, 76, 77, 78] (by decide +kernel) (by decide +kernel)
set_option maxRecDepth 20000 in
theorem gX5_lay_X5_throwsIf : GoodIn wsX5_lay (wsV RX5 83 RX5 yX5_throwsIf wsX5_throwsIf) := goodIn_app (goodIn_r _ [12, 13, 14, 10] (by decide +kernel) (by decide +kernel)) ggX5_lay_X5_throwsIf
set_option maxRecDepth 20000 in
theorem ggX5_lay_X5_layAll : GoodIn wsX5_lay wsX5_layAll := goodIn_r _ [20, 5, 21, 22, 10, 23, 24, 25, 26, 27, 28, 29, 30, 2, 31, 32, 33, 34, 35, 36, 37, 38, 6, 46, 47, 48, 49, 50, 51, 52, 53, 54, 55, 56, 57, 58, 59, 60, 61, 62, 63, 64, 65, 66, 67, 68, 69, 70, 71, 72, 73, 74, 75, 76, 77, 78] (by decide +kernel) (by decide +kernel)
set_option maxRecDepth 20000 in
theorem gX5_lay_X5_layAll : GoodIn wsX5_lay (wsV RX5 129 RX5 yX5_layAll wsX5_layAll) := goodIn_app (goodIn_r _ [17, 18, 19, 10] (by decide +kernel) (by decide +kernel)) ggX5_lay_X5_layAll
set_option maxRecDepth 20000 in
theorem ggX5_lay_X5_addRow : GoodIn wsX5_lay wsX5_addRow := goodIn_r _ [42, 43, 4, 44, 45, 46, 47, 48, 49, 50, 51, 52, 53, 54, 55, 56, 57, 58, 59, 60, 61, 62, 63, 64, 65, 66, 67, 68, 69, 70, 71, 72, 73, 74, 75, 76, 77, 78] (by decide +kernel) (by decide +kernel)
set_option maxRecDepth 20000 in
theorem gX5_lay_X5_addRow : GoodIn wsX5_lay (wsV RX5 93 RX5 yX5_addRow wsX5_addRow) := goodIn_app (goodIn_r _ [39, 40, 41, 10] (by decide +kernel) (by decide +kernel)) ggX5_lay_X5_addRow
theorem dX5_lay_0 : decode cX5_lay 0 = .ok (.aload_n 0, 1) := by decide +kernel
theorem dX5_lay_1 : decode cX5_lay 1 = .ok (.iconst 1, 1) := by decide +kernel
theorem dX5_lay_2 : decode cX5_lay 2 = .ok (.iload 5, 2) := by decide +kernel
theorem dX5_lay_4 : decode cX5_lay 4 = .ok (.iconst (-1), 1) := by decide +kernel
theorem dX5_lay_5 : decode cX5_lay 5 = .ok (.if_icmp .eq 16, 3) := by decide +kernel
theorem dX5_lay_8 : decode cX5_lay 8 = .ok (.aload_n 0, 1) := by decide +kernel
theorem dX5_lay_9 : decode cX5_lay 9 = .ok (.iload 5, 2) := by decide +kernel
theorem dX5_lay_11 : decode cX5_lay 11 = .ok (.invokevirtual 79, 3) := by decide +kernel
theorem dX5_lay_14 : decode cX5_lay 14 = .ok (.ifCond .ne 7, 3) := by decide +kernel
theorem dX5_lay_17 : decode cX5_lay 17 = .ok (.iconst 1, 1) := by decide +kernel
theorem dX5_lay_18 : decode cX5_lay 18 = .ok (.goto 4, 3) := by decide +kernel
theorem dX5_lay_21 : decode cX5_lay 21 = .ok (.iconst 0, 1) := by decide +kernel
theorem dX5_lay_22 : decode cX5_lay 22 = .ok (.invokevirtual 83, 3) := by decide +kernel
theorem dX5_lay_25 : decode cX5_lay 25 = .ok (.ifCond .eq 5, 3) := by decide +kernel
theorem dX5_lay_28 : decode cX5_lay 28 = .ok (.iconst 0, 1) := by decide +kernel
theorem dX5_lay_29 : decode cX5_lay 29 = .ok (.ireturn, 1) := by decide +kernel
theorem dX5_lay_30 : decode cX5_lay 30 = .ok (.iload_n 1, 1) := by decide +kernel
theorem dX5_lay_31 : decode cX5_lay 31 = .ok (.iconst 1, 1) := by decide +kernel
theorem dX5_lay_32 : decode cX5_lay 32 = .ok (.if_icmp .lt 68, 3) := by decide +kernel
theorem dX5_lay_35 : decode cX5_lay 35 = .ok (.iload_n 2, 1) := by decide +kernel
theorem dX5_lay_36 : decode cX5_lay 36 = .ok (.iconst 1, 1) := by decide +kernel
theorem dX5_lay_37 : decode cX5_lay 37 = .ok (.if_icmp .lt 63, 3) := by decide +kernel
theorem dX5_lay_40 : decode cX5_lay 40 = .ok (.iload_n 3, 1) := by decide +kernel
theorem dX5_lay_41 : decode cX5_lay 41 = .ok (.iconst 1, 1) := by decide +kernel
theorem dX5_lay_42 : decode cX5_lay 42 = .ok (.if_icmp .lt 58, 3) := by decide +kernel
theorem dX5_lay_45 : decode cX5_lay 45 = .ok (.iload_n 1, 1) := by decide +kernel
theorem dX5_lay_46 : decode cX5_lay 46 = .ok (.bipush 24, 2) := by decide +kernel
theorem dX5_lay_48 : decode cX5_lay 48 = .ok (.if_icmp .gt 52, 3) := by decide +kernel
theorem dX5_lay_51 : decode cX5_lay 51 = .ok (.iload_n 2, 1) := by decide +kernel
theorem dX5_lay_52 : decode cX5_lay 52 = .ok (.bipush 24, 2) := by decide +kernel
theorem dX5_lay_54 : decode cX5_lay 54 = .ok (.if_icmp .gt 46, 3) := by decide +kernel
theorem dX5_lay_57 : decode cX5_lay 57 = .ok (.iload_n 3, 1) := by decide +kernel
theorem dX5_lay_58 : decode cX5_lay 58 = .ok (.bipush 24, 2) := by decide +kernel
theorem dX5_lay_60 : decode cX5_lay 60 = .ok (.if_icmp .gt 40, 3) := by decide +kernel
theorem dX5_lay_63 : decode cX5_lay 63 = .ok (.iload_n 1, 1) := by decide +kernel
theorem dX5_lay_64 : decode cX5_lay 64 = .ok (.iload_n 2, 1) := by decide +kernel
theorem dX5_lay_65 : decode cX5_lay 65 = .ok (.imul, 1) := by decide +kernel
theorem dX5_lay_66 : decode cX5_lay 66 = .ok (.iload_n 3, 1) := by decide +kernel
theorem dX5_lay_67 : decode cX5_lay 67 = .ok (.imul, 1) := by decide +kernel
theorem dX5_lay_68 : decode cX5_lay 68 = .ok (.aload_n 0, 1) := by decide +kernel
theorem dX5_lay_69 : decode cX5_lay 69 = .ok (.getfield 66, 3) := by decide +kernel
theorem dX5_lay_72 : decode cX5_lay 72 = .ok (.if_icmp .gt 28, 3) := by decide +kernel
theorem dX5_lay_75 : decode cX5_lay 75 = .ok (.iload 4, 2) := by decide +kernel
theorem dX5_lay_77 : decode cX5_lay 77 = .ok (.ifCond .lt 23, 3) := by decide +kernel
theorem dX5_lay_80 : decode cX5_lay 80 = .ok (.iload 4, 2) := by decide +kernel
theorem dX5_lay_82 : decode cX5_lay 82 = .ok (.iconst 3, 1) := by decide +kernel
theorem dX5_lay_83 : decode cX5_lay 83 = .ok (.if_icmp .gt 17, 3) := by decide +kernel
theorem dX5_lay_86 : decode cX5_lay 86 = .ok (.aload_n 0, 1) := by decide +kernel
theorem dX5_lay_87 : decode cX5_lay 87 = .ok (.getfield 104, 3) := by decide +kernel
theorem dX5_lay_90 : decode cX5_lay 90 = .ok (.ifCond .eq 10, 3) := by decide +kernel
theorem dX5_lay_93 : decode cX5_lay 93 = .ok (.aload_n 0, 1) := by decide +kernel
theorem dX5_lay_94 : decode cX5_lay 94 = .ok (.getfield 87, 3) := by decide +kernel
theorem dX5_lay_97 : decode cX5_lay 97 = .ok (.ifCond .le 5, 3) := by decide +kernel
theorem dX5_lay_100 : decode cX5_lay 100 = .ok (.iconst (-1), 1) := by decide +kernel
theorem dX5_lay_101 : decode cX5_lay 101 = .ok (.ireturn, 1) := by decide +kernel
theorem dX5_lay_102 : decode cX5_lay 102 = .ok (.aload_n 0, 1) := by decide +kernel
theorem dX5_lay_103 : decode cX5_lay 103 = .ok (.iconst 2, 1) := by decide +kernel
theorem dX5_lay_104 : decode cX5_lay 104 = .ok (.iload 5, 2) := by decide +kernel
theorem dX5_lay_106 : decode cX5_lay 106 = .ok (.ifCond .lt 17, 3) := by decide +kernel
theorem dX5_lay_109 : decode cX5_lay 109 = .ok (.iload 5, 2) := by decide +kernel
theorem dX5_lay_111 : decode cX5_lay 111 = .ok (.iload_n 1, 1) := by decide +kernel
theorem dX5_lay_112 : decode cX5_lay 112 = .ok (.iload_n 2, 1) := by decide +kernel
theorem dX5_lay_113 : decode cX5_lay 113 = .ok (.imul, 1) := by decide +kernel
theorem dX5_lay_114 : decode cX5_lay 114 = .ok (.iload_n 3, 1) := by decide +kernel
theorem dX5_lay_115 : decode cX5_lay 115 = .ok (.imul, 1) := by decide +kernel
theorem dX5_lay_116 : decode cX5_lay 116 = .ok (.if_icmp .ge 7, 3) := by decide +kernel
theorem dX5_lay_119 : decode cX5_lay 119 = .ok (.iconst 1, 1) := by decide +kernel
theorem dX5_lay_120 : decode cX5_lay 120 = .ok (.goto 4, 3) := by decide +kernel
theorem dX5_lay_123 : decode cX5_lay 123 = .ok (.iconst 0, 1) := by decide +kernel
theorem dX5_lay_124 : decode cX5_lay 124 = .ok (.invokevirtual 83, 3) := by decide +kernel
theorem dX5_lay_127 : decode cX5_lay 127 = .ok (.ifCond .eq 5, 3) := by decide +kernel
theorem dX5_lay_130 : decode cX5_lay 130 = .ok (.iconst 0, 1) := by decide +kernel
theorem dX5_lay_131 : decode cX5_lay 131 = .ok (.ireturn, 1) := by decide +kernel
theorem dX5_lay_132 : decode cX5_lay 132 = .ok (.aload_n 0, 1) := by decide +kernel
theorem dX5_lay_133 : decode cX5_lay 133 = .ok (.iload_n 1, 1) := by decide +kernel
theorem dX5_lay_134 : decode cX5_lay 134 = .ok (.iload_n 2, 1) := by decide +kernel
theorem dX5_lay_135 : decode cX5_lay 135 = .ok (.iload_n 3, 1) := by decide +kernel
theorem dX5_lay_136 : decode cX5_lay 136 = .ok (.iload 4, 2) := by decide +kernel
theorem dX5_lay_138 : decode cX5_lay 138 = .ok (.invokevirtual 129, 3) := by decide +kernel
theorem dX5_lay_141 : decode cX5_lay 141 = .ok (.ifCond .eq 17, 3) := by decide +kernel
theorem dX5_lay_144 : decode cX5_lay 144 = .ok (.aload_n 0, 1) := by decide +kernel
theorem dX5_lay_145 : decode cX5_lay 145 = .ok (.getfield 76, 3) := by decide +kernel
theorem dX5_lay_148 : decode cX5_lay 148 = .ok (.aload_n 0, 1) := by decide +kernel
theorem dX5_lay_149 : decode cX5_lay 149 = .ok (.getfield 115, 3) := by decide +kernel
theorem dX5_lay_152 : decode cX5_lay 152 = .ok (.iadd, 1) := by decide +kernel
theorem dX5_lay_153 : decode cX5_lay 153 = .ok (.bipush 60, 2) := by decide +kernel
theorem dX5_lay_155 : decode cX5_lay 155 = .ok (.if_icmp .le 5, 3) := by decide +kernel
theorem dX5_lay_158 : decode cX5_lay 158 = .ok (.iconst (-1), 1) := by decide +kernel
theorem dX5_lay_159 : decode cX5_lay 159 = .ok (.ireturn, 1) := by decide +kernel
theorem dX5_lay_160 : decode cX5_lay 160 = .ok (.iconst 0, 1) := by decide +kernel
theorem dX5_lay_161 : decode cX5_lay 161 = .ok (.istore 6, 2) := by decide +kernel
theorem dX5_lay_163 : decode cX5_lay 163 = .ok (.iload 6, 2) := by decide +kernel
theorem dX5_lay_165 : decode cX5_lay 165 = .ok (.aload_n 0, 1) := by decide +kernel
theorem dX5_lay_166 : decode cX5_lay 166 = .ok (.getfield 115, 3) := by decide +kernel
theorem dX5_lay_169 : decode cX5_lay 169 = .ok (.if_icmp .ge 35, 3) := by decide +kernel
theorem dX5_lay_172 : decode cX5_lay 172 = .ok (.aload_n 0, 1) := by decide +kernel
theorem dX5_lay_173 : decode cX5_lay 173 = .ok (.aload_n 0, 1) := by decide +kernel
theorem dX5_lay_174 : decode cX5_lay 174 = .ok (.getfield 22, 3) := by decide +kernel
theorem dX5_lay_177 : decode cX5_lay 177 = .ok (.iload 6, 2) := by decide +kernel
theorem dX5_lay_179 : decode cX5_lay 179 = .ok (.iaload, 1) := by decide +kernel
theorem dX5_lay_180 : decode cX5_lay 180 = .ok (.iload 5, 2) := by decide +kernel
theorem dX5_lay_182 : decode cX5_lay 182 = .ok (.ifCond .lt 10, 3) := by decide +kernel
theorem dX5_lay_185 : decode cX5_lay 185 = .ok (.iconst 1, 1) := by decide +kernel
theorem dX5_lay_186 : decode cX5_lay 186 = .ok (.iload 5, 2) := by decide +kernel
theorem dX5_lay_188 : decode cX5_lay 188 = .ok (.ishl, 1) := by decide +kernel
theorem dX5_lay_189 : decode cX5_lay 189 = .ok (.goto 4, 3) := by decide +kernel
theorem dX5_lay_192 : decode cX5_lay 192 = .ok (.iconst 0, 1) := by decide +kernel
theorem dX5_lay_193 : decode cX5_lay 193 = .ok (.ior, 1) := by decide +kernel
theorem dX5_lay_194 : decode cX5_lay 194 = .ok (.invokevirtual 93, 3) := by decide +kernel
theorem dX5_lay_197 : decode cX5_lay 197 = .ok (.pop, 1) := by decide +kernel
theorem dX5_lay_198 : decode cX5_lay 198 = .ok (.iinc 6 1, 3) := by decide +kernel
theorem dX5_lay_201 : decode cX5_lay 201 = .ok (.goto (-38), 3) := by decide +kernel
theorem dX5_lay_204 : decode cX5_lay 204 = .ok (.aload_n 0, 1) := by decide +kernel
theorem dX5_lay_205 : decode cX5_lay 205 = .ok (.iconst 0, 1) := by decide +kernel
theorem dX5_lay_206 : decode cX5_lay 206 = .ok (.putfield 104, 3) := by decide +kernel
theorem dX5_lay_209 : decode cX5_lay 209 = .ok (.aload_n 0, 1) := by decide +kernel
theorem dX5_lay_210 : decode cX5_lay 210 = .ok (.getfield 115, 3) := by decide +kernel
theorem dX5_lay_213 : decode cX5_lay 213 = .ok (.ireturn, 1) := by decide +kernel
set_option maxRecDepth 20000 in
theorem ggX5_choose_X5_has : GoodIn wsX5_choose wsX5_has := goodIn_r _ [10, 11, 12, 13, 14, 15, 16, 17, 18, 19, 20, 21, 22, 23, 24, 25, 26, 27, 28, 29, 30, 31, 32, 33, 34, 35, 36, 37, 38, 39, 40, 41, 42, 43, 44] (by decide +kernel) (by decide +kernel)
set_option maxRecDepth 20000 in
theorem gX5_choose_X5_has : GoodIn wsX5_choose (wsV RX5 97 RX5 yX5_has wsX5_has) := goodIn_app (goodIn_r _ [6, 7, 8, 9] (by decide +kernel) (by decide +kernel)) ggX5_choose_X5_has
theorem dX5_choose_0 : decode cX5_choose 0 = .ok (.aload_n 0, 1) := by decide +kernel
theorem dX5_choose_1 : decode cX5_choose 1 = .ok (.getfield 31, 3) := by decide +kernel
theorem dX5_choose_4 : decode cX5_choose 4 = .ok (.iload_n 1, 1) := by decide +kernel
theorem dX5_choose_5 : decode cX5_choose 5 = .ok (.iload_n 2, 1) := by decide +kernel
theorem dX5_choose_6 : decode cX5_choose 6 = .ok (.bastore, 1) := by decide +kernel
theorem dX5_choose_7 : decode cX5_choose 7 = .ok (.iconst 0, 1) := by decide +kernel
theorem dX5_choose_8 : decode cX5_choose 8 = .ok (.istore_n 3, 1) := by decide +kernel
theorem dX5_choose_9 : decode cX5_choose 9 = .ok (.iload_n 3, 1) := by decide +kernel
theorem dX5_choose_10 : decode cX5_choose 10 = .ok (.aload_n 0, 1) := by decide +kernel
theorem dX5_choose_11 : decode cX5_choose 11 = .ok (.getfield 66, 3) := by decide +kernel
theorem dX5_choose_14 : decode cX5_choose 14 = .ok (.if_icmp .ge 69, 3) := by decide +kernel
theorem dX5_choose_17 : decode cX5_choose 17 = .ok (.aload_n 0, 1) := by decide +kernel
theorem dX5_choose_18 : decode cX5_choose 18 = .ok (.iload_n 1, 1) := by decide +kernel
theorem dX5_choose_19 : decode cX5_choose 19 = .ok (.iload_n 3, 1) := by decide +kernel
theorem dX5_choose_20 : decode cX5_choose 20 = .ok (.invokevirtual 97, 3) := by decide +kernel
theorem dX5_choose_23 : decode cX5_choose 23 = .ok (.ifCond .ne 6, 3) := by decide +kernel
theorem dX5_choose_26 : decode cX5_choose 26 = .ok (.goto 51, 3) := by decide +kernel
theorem dX5_choose_29 : decode cX5_choose 29 = .ok (.aload_n 0, 1) := by decide +kernel
theorem dX5_choose_30 : decode cX5_choose 30 = .ok (.getfield 60, 3) := by decide +kernel
theorem dX5_choose_33 : decode cX5_choose 33 = .ok (.iload_n 3, 1) := by decide +kernel
theorem dX5_choose_34 : decode cX5_choose 34 = .ok (.dup2, 1) := by decide +kernel
theorem dX5_choose_35 : decode cX5_choose 35 = .ok (.iaload, 1) := by decide +kernel
theorem dX5_choose_36 : decode cX5_choose 36 = .ok (.iload_n 2, 1) := by decide +kernel
theorem dX5_choose_37 : decode cX5_choose 37 = .ok (.ifCond .eq 7, 3) := by decide +kernel
theorem dX5_choose_40 : decode cX5_choose 40 = .ok (.iconst 1, 1) := by decide +kernel
theorem dX5_choose_41 : decode cX5_choose 41 = .ok (.goto 4, 3) := by decide +kernel
theorem dX5_choose_44 : decode cX5_choose 44 = .ok (.iconst (-1), 1) := by decide +kernel
theorem dX5_choose_45 : decode cX5_choose 45 = .ok (.iadd, 1) := by decide +kernel
theorem dX5_choose_46 : decode cX5_choose 46 = .ok (.iastore, 1) := by decide +kernel
theorem dX5_choose_47 : decode cX5_choose 47 = .ok (.aload_n 0, 1) := by decide +kernel
theorem dX5_choose_48 : decode cX5_choose 48 = .ok (.getfield 63, 3) := by decide +kernel
theorem dX5_choose_51 : decode cX5_choose 51 = .ok (.iload_n 3, 1) := by decide +kernel
theorem dX5_choose_52 : decode cX5_choose 52 = .ok (.iload_n 2, 1) := by decide +kernel
theorem dX5_choose_53 : decode cX5_choose 53 = .ok (.ifCond .eq 17, 3) := by decide +kernel
theorem dX5_choose_56 : decode cX5_choose 56 = .ok (.aload_n 0, 1) := by decide +kernel
theorem dX5_choose_57 : decode cX5_choose 57 = .ok (.getfield 16, 3) := by decide +kernel
theorem dX5_choose_60 : decode cX5_choose 60 = .ok (.bipush 24, 2) := by decide +kernel
theorem dX5_choose_62 : decode cX5_choose 62 = .ok (.iload_n 1, 1) := by decide +kernel
theorem dX5_choose_63 : decode cX5_choose 63 = .ok (.imul, 1) := by decide +kernel
theorem dX5_choose_64 : decode cX5_choose 64 = .ok (.iload_n 3, 1) := by decide +kernel
theorem dX5_choose_65 : decode cX5_choose 65 = .ok (.iadd, 1) := by decide +kernel
theorem dX5_choose_66 : decode cX5_choose 66 = .ok (.iaload, 1) := by decide +kernel
theorem dX5_choose_67 : decode cX5_choose 67 = .ok (.goto 9, 3) := by decide +kernel
theorem dX5_choose_70 : decode cX5_choose 70 = .ok (.aload_n 0, 1) := by decide +kernel
theorem dX5_choose_71 : decode cX5_choose 71 = .ok (.getfield 63, 3) := by decide +kernel
theorem dX5_choose_74 : decode cX5_choose 74 = .ok (.iload_n 3, 1) := by decide +kernel
theorem dX5_choose_75 : decode cX5_choose 75 = .ok (.iaload, 1) := by decide +kernel
theorem dX5_choose_76 : decode cX5_choose 76 = .ok (.iastore, 1) := by decide +kernel
theorem dX5_choose_77 : decode cX5_choose 77 = .ok (.iinc 3 1, 3) := by decide +kernel
theorem dX5_choose_80 : decode cX5_choose 80 = .ok (.goto (-71), 3) := by decide +kernel
theorem dX5_choose_83 : decode cX5_choose 83 = .ok (.return_, 1) := by decide +kernel
set_option maxRecDepth 20000 in
theorem ggX5_fits_X5_has : GoodIn wsX5_fits wsX5_has := goodIn_r _ [11, 12, 13, 14, 15, 16, 17, 18, 19, 20, 21, 22, 23, 24, 25, 26, 27, 28, 29, 30, 31, 32, 33, 34, 35, 36, 37, 38, 39, 40, 41, 42, 43, 44, 45] (by decide +kernel) (by decide +kernel)
set_option maxRecDepth 20000 in
theorem gX5_fits_X5_has : GoodIn wsX5_fits (wsV RX5 97 RX5 yX5_has wsX5_has) := goodIn_app (goodIn_r _ [7, 8, 9, 10] (by decide +kernel) (by decide +kernel)) ggX5_fits_X5_has
theorem dX5_fits_0 : decode cX5_fits 0 = .ok (.iconst 0, 1) := by decide +kernel
theorem dX5_fits_1 : decode cX5_fits 1 = .ok (.istore_n 2, 1) := by decide +kernel
theorem dX5_fits_2 : decode cX5_fits 2 = .ok (.iload_n 2, 1) := by decide +kernel
theorem dX5_fits_3 : decode cX5_fits 3 = .ok (.aload_n 0, 1) := by decide +kernel
theorem dX5_fits_4 : decode cX5_fits 4 = .ok (.getfield 66, 3) := by decide +kernel
theorem dX5_fits_7 : decode cX5_fits 7 = .ok (.if_icmp .ge 84, 3) := by decide +kernel
theorem dX5_fits_10 : decode cX5_fits 10 = .ok (.aload_n 0, 1) := by decide +kernel
theorem dX5_fits_11 : decode cX5_fits 11 = .ok (.iload_n 1, 1) := by decide +kernel
theorem dX5_fits_12 : decode cX5_fits 12 = .ok (.iload_n 2, 1) := by decide +kernel
theorem dX5_fits_13 : decode cX5_fits 13 = .ok (.invokevirtual 97, 3) := by decide +kernel
theorem dX5_fits_16 : decode cX5_fits 16 = .ok (.ifCond .ne 6, 3) := by decide +kernel
theorem dX5_fits_19 : decode cX5_fits 19 = .ok (.goto 66, 3) := by decide +kernel
theorem dX5_fits_22 : decode cX5_fits 22 = .ok (.aload_n 0, 1) := by decide +kernel
theorem dX5_fits_23 : decode cX5_fits 23 = .ok (.getfield 16, 3) := by decide +kernel
theorem dX5_fits_26 : decode cX5_fits 26 = .ok (.bipush 24, 2) := by decide +kernel
theorem dX5_fits_28 : decode cX5_fits 28 = .ok (.iload_n 1, 1) := by decide +kernel
theorem dX5_fits_29 : decode cX5_fits 29 = .ok (.imul, 1) := by decide +kernel
theorem dX5_fits_30 : decode cX5_fits 30 = .ok (.iload_n 2, 1) := by decide +kernel
theorem dX5_fits_31 : decode cX5_fits 31 = .ok (.iadd, 1) := by decide +kernel
theorem dX5_fits_32 : decode cX5_fits 32 = .ok (.iaload, 1) := by decide +kernel
theorem dX5_fits_33 : decode cX5_fits 33 = .ok (.istore_n 3, 1) := by decide +kernel
theorem dX5_fits_34 : decode cX5_fits 34 = .ok (.iload_n 2, 1) := by decide +kernel
theorem dX5_fits_35 : decode cX5_fits 35 = .ok (.aload_n 0, 1) := by decide +kernel
theorem dX5_fits_36 : decode cX5_fits 36 = .ok (.getfield 70, 3) := by decide +kernel
theorem dX5_fits_39 : decode cX5_fits 39 = .ok (.if_icmp .ge 21, 3) := by decide +kernel
theorem dX5_fits_42 : decode cX5_fits 42 = .ok (.aload_n 0, 1) := by decide +kernel
theorem dX5_fits_43 : decode cX5_fits 43 = .ok (.getfield 60, 3) := by decide +kernel
theorem dX5_fits_46 : decode cX5_fits 46 = .ok (.iload_n 2, 1) := by decide +kernel
theorem dX5_fits_47 : decode cX5_fits 47 = .ok (.iaload, 1) := by decide +kernel
theorem dX5_fits_48 : decode cX5_fits 48 = .ok (.aload_n 0, 1) := by decide +kernel
theorem dX5_fits_49 : decode cX5_fits 49 = .ok (.getfield 7, 3) := by decide +kernel
theorem dX5_fits_52 : decode cX5_fits 52 = .ok (.iload_n 2, 1) := by decide +kernel
theorem dX5_fits_53 : decode cX5_fits 53 = .ok (.iaload, 1) := by decide +kernel
theorem dX5_fits_54 : decode cX5_fits 54 = .ok (.if_icmp .lt 31, 3) := by decide +kernel
theorem dX5_fits_57 : decode cX5_fits 57 = .ok (.goto 26, 3) := by decide +kernel
theorem dX5_fits_60 : decode cX5_fits 60 = .ok (.aload_n 0, 1) := by decide +kernel
theorem dX5_fits_61 : decode cX5_fits 61 = .ok (.getfield 60, 3) := by decide +kernel
theorem dX5_fits_64 : decode cX5_fits 64 = .ok (.iload_n 2, 1) := by decide +kernel
theorem dX5_fits_65 : decode cX5_fits 65 = .ok (.iaload, 1) := by decide +kernel
theorem dX5_fits_66 : decode cX5_fits 66 = .ok (.ifCond .le 19, 3) := by decide +kernel
theorem dX5_fits_69 : decode cX5_fits 69 = .ok (.iload_n 3, 1) := by decide +kernel
theorem dX5_fits_70 : decode cX5_fits 70 = .ok (.ifCond .eq 13, 3) := by decide +kernel
theorem dX5_fits_73 : decode cX5_fits 73 = .ok (.iload_n 3, 1) := by decide +kernel
theorem dX5_fits_74 : decode cX5_fits 74 = .ok (.aload_n 0, 1) := by decide +kernel
theorem dX5_fits_75 : decode cX5_fits 75 = .ok (.getfield 63, 3) := by decide +kernel
theorem dX5_fits_78 : decode cX5_fits 78 = .ok (.iload_n 2, 1) := by decide +kernel
theorem dX5_fits_79 : decode cX5_fits 79 = .ok (.iaload, 1) := by decide +kernel
theorem dX5_fits_80 : decode cX5_fits 80 = .ok (.if_icmp .eq 5, 3) := by decide +kernel
theorem dX5_fits_83 : decode cX5_fits 83 = .ok (.iconst 0, 1) := by decide +kernel
theorem dX5_fits_84 : decode cX5_fits 84 = .ok (.ireturn, 1) := by decide +kernel
theorem dX5_fits_85 : decode cX5_fits 85 = .ok (.iinc 2 1, 3) := by decide +kernel
theorem dX5_fits_88 : decode cX5_fits 88 = .ok (.goto (-86), 3) := by decide +kernel
theorem dX5_fits_91 : decode cX5_fits 91 = .ok (.iconst 1, 1) := by decide +kernel
theorem dX5_fits_92 : decode cX5_fits 92 = .ok (.ireturn, 1) := by decide +kernel
theorem dX5_hasNeeded_0 : decode cX5_hasNeeded 0 = .ok (.aload_n 0, 1) := by decide +kernel
theorem dX5_hasNeeded_1 : decode cX5_hasNeeded 1 = .ok (.getfield 13, 3) := by decide +kernel
theorem dX5_hasNeeded_4 : decode cX5_hasNeeded 4 = .ok (.iload_n 1, 1) := by decide +kernel
theorem dX5_hasNeeded_5 : decode cX5_hasNeeded 5 = .ok (.iaload, 1) := by decide +kernel
theorem dX5_hasNeeded_6 : decode cX5_hasNeeded 6 = .ok (.iconst 1, 1) := by decide +kernel
theorem dX5_hasNeeded_7 : decode cX5_hasNeeded 7 = .ok (.aload_n 0, 1) := by decide +kernel
theorem dX5_hasNeeded_8 : decode cX5_hasNeeded 8 = .ok (.getfield 70, 3) := by decide +kernel
theorem dX5_hasNeeded_11 : decode cX5_hasNeeded 11 = .ok (.ishl, 1) := by decide +kernel
theorem dX5_hasNeeded_12 : decode cX5_hasNeeded 12 = .ok (.iconst 1, 1) := by decide +kernel
theorem dX5_hasNeeded_13 : decode cX5_hasNeeded 13 = .ok (.isub, 1) := by decide +kernel
theorem dX5_hasNeeded_14 : decode cX5_hasNeeded 14 = .ok (.iand, 1) := by decide +kernel
theorem dX5_hasNeeded_15 : decode cX5_hasNeeded 15 = .ok (.ifCond .eq 7, 3) := by decide +kernel
theorem dX5_hasNeeded_18 : decode cX5_hasNeeded 18 = .ok (.iconst 1, 1) := by decide +kernel
theorem dX5_hasNeeded_19 : decode cX5_hasNeeded 19 = .ok (.goto 4, 3) := by decide +kernel
theorem dX5_hasNeeded_22 : decode cX5_hasNeeded 22 = .ok (.iconst 0, 1) := by decide +kernel
theorem dX5_hasNeeded_23 : decode cX5_hasNeeded 23 = .ok (.ireturn, 1) := by decide +kernel
set_option maxRecDepth 20000 in
theorem ggX5_begin_X5_choose : GoodIn wsX5_begin wsX5_choose := goodIn_r _ [10, 1, 11, 3, 12, 13, 14, 15, 16, 9, 17, 18, 19, 20, 21, 22, 23, 24, 25, 26, 27, 28, 29, 30, 31, 32, 33, 34, 35, 36, 37, 38, 39, 40, 41, 42, 43, 44, 45, 46, 47, 48, 49, 50, 51] (by decide +kernel) (by decide +kernel)
set_option maxRecDepth 20000 in
theorem gX5_begin_X5_choose : GoodIn wsX5_begin (wsV RX5 133 RX5 yX5_choose wsX5_choose) := goodIn_app (goodIn_r _ [6, 7, 8, 9] (by decide +kernel) (by decide +kernel)) ggX5_begin_X5_choose
theorem dX5_begin_0 : decode cX5_begin 0 = .ok (.iconst 0, 1) := by decide +kernel
theorem dX5_begin_1 : decode cX5_begin 1 = .ok (.istore_n 1, 1) := by decide +kernel
theorem dX5_begin_2 : decode cX5_begin 2 = .ok (.iload_n 1, 1) := by decide +kernel
theorem dX5_begin_3 : decode cX5_begin 3 = .ok (.bipush 60, 2) := by decide +kernel
theorem dX5_begin_5 : decode cX5_begin 5 = .ok (.if_icmp .ge 23, 3) := by decide +kernel
theorem dX5_begin_8 : decode cX5_begin 8 = .ok (.aload_n 0, 1) := by decide +kernel
theorem dX5_begin_9 : decode cX5_begin 9 = .ok (.getfield 31, 3) := by decide +kernel
theorem dX5_begin_12 : decode cX5_begin 12 = .ok (.iload_n 1, 1) := by decide +kernel
theorem dX5_begin_13 : decode cX5_begin 13 = .ok (.iconst 0, 1) := by decide +kernel
theorem dX5_begin_14 : decode cX5_begin 14 = .ok (.bastore, 1) := by decide +kernel
theorem dX5_begin_15 : decode cX5_begin 15 = .ok (.aload_n 0, 1) := by decide +kernel
theorem dX5_begin_16 : decode cX5_begin 16 = .ok (.getfield 41, 3) := by decide +kernel
theorem dX5_begin_19 : decode cX5_begin 19 = .ok (.iload_n 1, 1) := by decide +kernel
theorem dX5_begin_20 : decode cX5_begin 20 = .ok (.iconst (-1), 1) := by decide +kernel
theorem dX5_begin_21 : decode cX5_begin 21 = .ok (.iastore, 1) := by decide +kernel
theorem dX5_begin_22 : decode cX5_begin 22 = .ok (.iinc 1 1, 3) := by decide +kernel
theorem dX5_begin_25 : decode cX5_begin 25 = .ok (.goto (-23), 3) := by decide +kernel
theorem dX5_begin_28 : decode cX5_begin 28 = .ok (.iconst 0, 1) := by decide +kernel
theorem dX5_begin_29 : decode cX5_begin 29 = .ok (.istore_n 1, 1) := by decide +kernel
theorem dX5_begin_30 : decode cX5_begin 30 = .ok (.iload_n 1, 1) := by decide +kernel
theorem dX5_begin_31 : decode cX5_begin 31 = .ok (.bipush 24, 2) := by decide +kernel
theorem dX5_begin_33 : decode cX5_begin 33 = .ok (.if_icmp .ge 16, 3) := by decide +kernel
theorem dX5_begin_36 : decode cX5_begin 36 = .ok (.aload_n 0, 1) := by decide +kernel
theorem dX5_begin_37 : decode cX5_begin 37 = .ok (.getfield 60, 3) := by decide +kernel
theorem dX5_begin_40 : decode cX5_begin 40 = .ok (.iload_n 1, 1) := by decide +kernel
theorem dX5_begin_41 : decode cX5_begin 41 = .ok (.iconst 0, 1) := by decide +kernel
theorem dX5_begin_42 : decode cX5_begin 42 = .ok (.iastore, 1) := by decide +kernel
theorem dX5_begin_43 : decode cX5_begin 43 = .ok (.iinc 1 1, 3) := by decide +kernel
theorem dX5_begin_46 : decode cX5_begin 46 = .ok (.goto (-16), 3) := by decide +kernel
theorem dX5_begin_49 : decode cX5_begin 49 = .ok (.iconst 0, 1) := by decide +kernel
theorem dX5_begin_50 : decode cX5_begin 50 = .ok (.istore_n 1, 1) := by decide +kernel
theorem dX5_begin_51 : decode cX5_begin 51 = .ok (.iload_n 1, 1) := by decide +kernel
theorem dX5_begin_52 : decode cX5_begin 52 = .ok (.aload_n 0, 1) := by decide +kernel
theorem dX5_begin_53 : decode cX5_begin 53 = .ok (.getfield 87, 3) := by decide +kernel
theorem dX5_begin_56 : decode cX5_begin 56 = .ok (.if_icmp .ge 20, 3) := by decide +kernel
theorem dX5_begin_59 : decode cX5_begin 59 = .ok (.aload_n 0, 1) := by decide +kernel
theorem dX5_begin_60 : decode cX5_begin 60 = .ok (.aload_n 0, 1) := by decide +kernel
theorem dX5_begin_61 : decode cX5_begin 61 = .ok (.getfield 25, 3) := by decide +kernel
theorem dX5_begin_64 : decode cX5_begin 64 = .ok (.iload_n 1, 1) := by decide +kernel
theorem dX5_begin_65 : decode cX5_begin 65 = .ok (.iaload, 1) := by decide +kernel
theorem dX5_begin_66 : decode cX5_begin 66 = .ok (.iconst 1, 1) := by decide +kernel
theorem dX5_begin_67 : decode cX5_begin 67 = .ok (.invokevirtual 133, 3) := by decide +kernel
theorem dX5_begin_70 : decode cX5_begin 70 = .ok (.iinc 1 1, 3) := by decide +kernel
theorem dX5_begin_73 : decode cX5_begin 73 = .ok (.goto (-22), 3) := by decide +kernel
theorem dX5_begin_76 : decode cX5_begin 76 = .ok (.return_, 1) := by decide +kernel
set_option maxRecDepth 20000 in
theorem ggX5_isOpen_X5_hasNeeded : GoodIn wsX5_isOpen wsX5_hasNeeded := goodIn_r _ [6, 7, 8, 22, 23, 24, 25, 26, 27, 28, 29, 30, 31, 32, 33, 34, 35, 36, 37, 38, 39, 40, 41, 42, 43, 44, 45, 46, 47, 48, 49, 50, 51, 52, 53, 54] (by decide +kernel) (by decide +kernel)
set_option maxRecDepth 20000 in
theorem gX5_isOpen_X5_hasNeeded : GoodIn wsX5_isOpen (wsV RX5 137 RX5 yX5_hasNeeded wsX5_hasNeeded) := goodIn_app (goodIn_r _ [2, 3, 4, 5] (by decide +kernel) (by decide +kernel)) ggX5_isOpen_X5_hasNeeded
set_option maxRecDepth 20000 in
theorem ggX5_isOpen_X5_fits : GoodIn wsX5_isOpen wsX5_fits := goodIn_r _ [12, 13, 14, 8, 15, 16, 17, 18, 19, 20, 5, 21, 7, 22, 23, 24, 25, 26, 27, 28, 29, 30, 31, 32, 33, 34, 35, 36, 37, 38, 39, 40, 41, 42, 43, 44, 45, 46, 47, 48, 49, 50, 51, 52, 53, 54] (by decide +kernel) (by decide +kernel)
set_option maxRecDepth 20000 in
theorem gX5_isOpen_X5_fits : GoodIn wsX5_isOpen (wsV RX5 140 RX5 yX5_fits wsX5_fits) := goodIn_app (goodIn_r _ [9, 10, 11, 5] (by decide +kernel) (by decide +kernel)) ggX5_isOpen_X5_fits
theorem dX5_isOpen_0 : decode cX5_isOpen 0 = .ok (.aload_n 0, 1) := by decide +kernel
theorem dX5_isOpen_1 : decode cX5_isOpen 1 = .ok (.iload_n 1, 1) := by decide +kernel
theorem dX5_isOpen_2 : decode cX5_isOpen 2 = .ok (.invokevirtual 137, 3) := by decide +kernel
theorem dX5_isOpen_5 : decode cX5_isOpen 5 = .ok (.ifCond .eq 24, 3) := by decide +kernel
theorem dX5_isOpen_8 : decode cX5_isOpen 8 = .ok (.aload_n 0, 1) := by decide +kernel
theorem dX5_isOpen_9 : decode cX5_isOpen 9 = .ok (.getfield 31, 3) := by decide +kernel
theorem dX5_isOpen_12 : decode cX5_isOpen 12 = .ok (.iload_n 1, 1) := by decide +kernel
theorem dX5_isOpen_13 : decode cX5_isOpen 13 = .ok (.baload, 1) := by decide +kernel
theorem dX5_isOpen_14 : decode cX5_isOpen 14 = .ok (.ifCond .ne 15, 3) := by decide +kernel
theorem dX5_isOpen_17 : decode cX5_isOpen 17 = .ok (.aload_n 0, 1) := by decide +kernel
theorem dX5_isOpen_18 : decode cX5_isOpen 18 = .ok (.iload_n 1, 1) := by decide +kernel
theorem dX5_isOpen_19 : decode cX5_isOpen 19 = .ok (.invokevirtual 140, 3) := by decide +kernel
theorem dX5_isOpen_22 : decode cX5_isOpen 22 = .ok (.ifCond .eq 7, 3) := by decide +kernel
theorem dX5_isOpen_25 : decode cX5_isOpen 25 = .ok (.iconst 1, 1) := by decide +kernel
theorem dX5_isOpen_26 : decode cX5_isOpen 26 = .ok (.goto 4, 3) := by decide +kernel
theorem dX5_isOpen_29 : decode cX5_isOpen 29 = .ok (.iconst 0, 1) := by decide +kernel
theorem dX5_isOpen_30 : decode cX5_isOpen 30 = .ok (.ireturn, 1) := by decide +kernel
set_option maxRecDepth 20000 in
theorem ggX5_take_X5_isRow : GoodIn wsX5_take wsX5_isRow := goodIn_r _ [8, 9, 48, 49, 50, 51, 52, 53, 54, 55, 56, 57, 58, 59, 60, 61, 62, 63, 64, 65, 66, 67, 68, 69, 70, 71, 72, 73, 74, 75, 76, 77, 78, 79, 80] (by decide +kernel) (by decide +kernel)
set_option maxRecDepth 20000 in
theorem gX5_take_X5_isRow : GoodIn wsX5_take (wsV RX5 143 RX5 yX5_isRow wsX5_isRow) := goodIn_app (goodIn_r _ [4, 5, 6, 7] (by decide +kernel) (by decide +kernel)) ggX5_take_X5_isRow
set_option maxRecDepth 20000 in
theorem ggX5_take_X5_throwsIf : GoodIn wsX5_take wsX5_throwsIf := goodIn_r _ [13, 14, 48, 49, 50, 51, 52, 53, 54, 55, 56, 57, 58, 59, 60, 61, 62, 63, 64, 65, 66, 67, 68, 69, 70, 71, 72, 73, 74, 75, 76, 77, 78, 79, 80] (by decide +kernel) (by decide +kernel)
set_option maxRecDepth 20000 in
theorem gX5_take_X5_throwsIf : GoodIn wsX5_take (wsV RX5 83 RX5 yX5_throwsIf wsX5_throwsIf) := goodIn_app (goodIn_r _ [10, 11, 12, 7] (by decide +kernel) (by decide +kernel)) ggX5_take_X5_throwsIf
set_option maxRecDepth 20000 in
theorem ggX5_take_X5_begin : GoodIn wsX5_take wsX5_begin := goodIn_r _ [18, 19, 20, 21, 2, 1, 22, 23, 24, 7, 25, 26, 27, 28, 29, 30, 31, 32, 33, 48, 49, 50, 51, 52, 53, 54, 55, 56, 57, 58, 59, 60, 61, 62, 63, 64, 65, 66, 67, 68, 69, 70, 71, 72, 73, 74, 75, 76, 77, 78, 79, 80] (by decide +kernel) (by decide +kernel)
set_option maxRecDepth 20000 in
theorem gX5_take_X5_begin : GoodIn wsX5_take (wsV RX5 146 RX5 yX5_begin wsX5_begin) := goodIn_app (goodIn_r _ [15, 16, 17, 7] (by decide +kernel) (by decide +kernel)) ggX5_take_X5_begin
set_option maxRecDepth 20000 in
theorem ggX5_take_X5_isOpen : GoodIn wsX5_take wsX5_isOpen := goodIn_r _ [37, 19, 38, 39, 40, 7, 41, 33, 42, 43, 44, 45, 46, 26, 28, 21, 47, 27, 29, 30, 31, 32, 48, 49, 50, 51, 52, 53, 54, 55, 56, 57, 58, 59, 60, 61, 62, 63, 64, 65, 66, 67, 68, 69, 70, 71, 72, 73, 74, 75, 76, 77, 78, 79, 80] (by decide +kernel) (by decide +kernel)
set_option maxRecDepth 20000 in
theorem gX5_take_X5_isOpen : GoodIn wsX5_take (wsV RX5 149 RX5 yX5_isOpen wsX5_isOpen) := goodIn_app (goodIn_r _ [34, 35, 36, 7] (by decide +kernel) (by decide +kernel)) ggX5_take_X5_isOpen
theorem dX5_take_0 : decode cX5_take 0 = .ok (.aload_n 0, 1) := by decide +kernel
theorem dX5_take_1 : decode cX5_take 1 = .ok (.iconst 1, 1) := by decide +kernel
theorem dX5_take_2 : decode cX5_take 2 = .ok (.aload_n 0, 1) := by decide +kernel
theorem dX5_take_3 : decode cX5_take 3 = .ok (.iload_n 1, 1) := by decide +kernel
theorem dX5_take_4 : decode cX5_take 4 = .ok (.invokevirtual 143, 3) := by decide +kernel
theorem dX5_take_7 : decode cX5_take 7 = .ok (.ifCond .ne 7, 3) := by decide +kernel
theorem dX5_take_10 : decode cX5_take 10 = .ok (.iconst 1, 1) := by decide +kernel
theorem dX5_take_11 : decode cX5_take 11 = .ok (.goto 4, 3) := by decide +kernel
theorem dX5_take_14 : decode cX5_take 14 = .ok (.iconst 0, 1) := by decide +kernel
theorem dX5_take_15 : decode cX5_take 15 = .ok (.invokevirtual 83, 3) := by decide +kernel
theorem dX5_take_18 : decode cX5_take 18 = .ok (.ifCond .eq 5, 3) := by decide +kernel
theorem dX5_take_21 : decode cX5_take 21 = .ok (.iconst 0, 1) := by decide +kernel
theorem dX5_take_22 : decode cX5_take 22 = .ok (.ireturn, 1) := by decide +kernel
theorem dX5_take_23 : decode cX5_take 23 = .ok (.aload_n 0, 1) := by decide +kernel
theorem dX5_take_24 : decode cX5_take 24 = .ok (.invokevirtual 146, 3) := by decide +kernel
theorem dX5_take_27 : decode cX5_take 27 = .ok (.aload_n 0, 1) := by decide +kernel
