theorem dX5_exchange_15 : decode cX5_exchange 15 = .ok (.iload_n 2, 1) := by decide +kernel
theorem dX5_exchange_16 : decode cX5_exchange 16 = .ok (.invokevirtual 79, 3) := by decide +kernel
theorem dX5_exchange_19 : decode cX5_exchange 19 = .ok (.ifCond .eq 11, 3) := by decide +kernel
theorem dX5_exchange_22 : decode cX5_exchange 22 = .ok (.aload_n 0, 1) := by decide +kernel
theorem dX5_exchange_23 : decode cX5_exchange 23 = .ok (.iload_n 3, 1) := by decide +kernel
theorem dX5_exchange_24 : decode cX5_exchange 24 = .ok (.invokevirtual 79, 3) := by decide +kernel
theorem dX5_exchange_27 : decode cX5_exchange 27 = .ok (.ifCond .ne 7, 3) := by decide +kernel
theorem dX5_exchange_30 : decode cX5_exchange 30 = .ok (.iconst 1, 1) := by decide +kernel
theorem dX5_exchange_31 : decode cX5_exchange 31 = .ok (.goto 4, 3) := by decide +kernel
theorem dX5_exchange_34 : decode cX5_exchange 34 = .ok (.iconst 0, 1) := by decide +kernel
theorem dX5_exchange_35 : decode cX5_exchange 35 = .ok (.invokevirtual 83, 3) := by decide +kernel
theorem dX5_exchange_38 : decode cX5_exchange 38 = .ok (.ifCond .ne 8, 3) := by decide +kernel
theorem dX5_exchange_41 : decode cX5_exchange 41 = .ok (.iload_n 2, 1) := by decide +kernel
theorem dX5_exchange_42 : decode cX5_exchange 42 = .ok (.iload_n 3, 1) := by decide +kernel
theorem dX5_exchange_43 : decode cX5_exchange 43 = .ok (.if_icmp .ne 5, 3) := by decide +kernel
theorem dX5_exchange_46 : decode cX5_exchange 46 = .ok (.iconst 0, 1) := by decide +kernel
theorem dX5_exchange_47 : decode cX5_exchange 47 = .ok (.ireturn, 1) := by decide +kernel
theorem dX5_exchange_48 : decode cX5_exchange 48 = .ok (.aload_n 0, 1) := by decide +kernel
theorem dX5_exchange_49 : decode cX5_exchange 49 = .ok (.getfield 51, 3) := by decide +kernel
theorem dX5_exchange_52 : decode cX5_exchange 52 = .ok (.bipush 24, 2) := by decide +kernel
theorem dX5_exchange_54 : decode cX5_exchange 54 = .ok (.iload_n 1, 1) := by decide +kernel
theorem dX5_exchange_55 : decode cX5_exchange 55 = .ok (.imul, 1) := by decide +kernel
theorem dX5_exchange_56 : decode cX5_exchange 56 = .ok (.iload_n 2, 1) := by decide +kernel
theorem dX5_exchange_57 : decode cX5_exchange 57 = .ok (.iadd, 1) := by decide +kernel
theorem dX5_exchange_58 : decode cX5_exchange 58 = .ok (.iaload, 1) := by decide +kernel
theorem dX5_exchange_59 : decode cX5_exchange 59 = .ok (.istore 4, 2) := by decide +kernel
theorem dX5_exchange_61 : decode cX5_exchange 61 = .ok (.aload_n 0, 1) := by decide +kernel
theorem dX5_exchange_62 : decode cX5_exchange 62 = .ok (.getfield 51, 3) := by decide +kernel
theorem dX5_exchange_65 : decode cX5_exchange 65 = .ok (.bipush 24, 2) := by decide +kernel
theorem dX5_exchange_67 : decode cX5_exchange 67 = .ok (.iload_n 1, 1) := by decide +kernel
theorem dX5_exchange_68 : decode cX5_exchange 68 = .ok (.imul, 1) := by decide +kernel
theorem dX5_exchange_69 : decode cX5_exchange 69 = .ok (.iload_n 2, 1) := by decide +kernel
theorem dX5_exchange_70 : decode cX5_exchange 70 = .ok (.iadd, 1) := by decide +kernel
theorem dX5_exchange_71 : decode cX5_exchange 71 = .ok (.aload_n 0, 1) := by decide +kernel
theorem dX5_exchange_72 : decode cX5_exchange 72 = .ok (.getfield 51, 3) := by decide +kernel
theorem dX5_exchange_75 : decode cX5_exchange 75 = .ok (.bipush 24, 2) := by decide +kernel
theorem dX5_exchange_77 : decode cX5_exchange 77 = .ok (.iload_n 1, 1) := by decide +kernel
theorem dX5_exchange_78 : decode cX5_exchange 78 = .ok (.imul, 1) := by decide +kernel
theorem dX5_exchange_79 : decode cX5_exchange 79 = .ok (.iload_n 3, 1) := by decide +kernel
theorem dX5_exchange_80 : decode cX5_exchange 80 = .ok (.iadd, 1) := by decide +kernel
theorem dX5_exchange_81 : decode cX5_exchange 81 = .ok (.iaload, 1) := by decide +kernel
theorem dX5_exchange_82 : decode cX5_exchange 82 = .ok (.iastore, 1) := by decide +kernel
theorem dX5_exchange_83 : decode cX5_exchange 83 = .ok (.aload_n 0, 1) := by decide +kernel
theorem dX5_exchange_84 : decode cX5_exchange 84 = .ok (.getfield 51, 3) := by decide +kernel
theorem dX5_exchange_87 : decode cX5_exchange 87 = .ok (.bipush 24, 2) := by decide +kernel
theorem dX5_exchange_89 : decode cX5_exchange 89 = .ok (.iload_n 1, 1) := by decide +kernel
theorem dX5_exchange_90 : decode cX5_exchange 90 = .ok (.imul, 1) := by decide +kernel
theorem dX5_exchange_91 : decode cX5_exchange 91 = .ok (.iload_n 3, 1) := by decide +kernel
theorem dX5_exchange_92 : decode cX5_exchange 92 = .ok (.iadd, 1) := by decide +kernel
theorem dX5_exchange_93 : decode cX5_exchange 93 = .ok (.iload 4, 2) := by decide +kernel
theorem dX5_exchange_95 : decode cX5_exchange 95 = .ok (.iastore, 1) := by decide +kernel
theorem dX5_exchange_96 : decode cX5_exchange 96 = .ok (.iconst 1, 1) := by decide +kernel
theorem dX5_exchange_97 : decode cX5_exchange 97 = .ok (.ireturn, 1) := by decide +kernel
set_option maxRecDepth 20000 in
theorem ggX5_isImage_X5_countOf : GoodIn wsX5_isImage wsX5_countOf := goodIn_r _ [8] (by decide +kernel) (by decide +kernel)
set_option maxRecDepth 20000 in
theorem gX5_isImage_X5_countOf : GoodIn wsX5_isImage (va_wsS RX5 101 yX5_countOf wsX5_countOf) := goodIn_app (goodIn_r _ [5, 6, 7] (by decide +kernel) (by decide +kernel)) ggX5_isImage_X5_countOf
set_option maxRecDepth 20000 in
theorem ggX5_isImage_X5_has : GoodIn wsX5_isImage wsX5_has := goodIn_r _ [12, 1, 13, 14, 15, 16, 17, 18, 19, 20, 21, 22, 23, 24, 25, 26, 27, 28, 29, 30, 31, 32, 33, 34, 35, 36, 37, 38, 39, 40, 41, 42, 43, 44, 45] (by decide +kernel) (by decide +kernel)
set_option maxRecDepth 20000 in
theorem gX5_isImage_X5_has : GoodIn wsX5_isImage (wsV RX5 97 RX5 yX5_has wsX5_has) := goodIn_app (goodIn_r _ [9, 10, 11, 7] (by decide +kernel) (by decide +kernel)) ggX5_isImage_X5_has
theorem dX5_isImage_0 : decode cX5_isImage 0 = .ok (.aload_n 0, 1) := by decide +kernel
theorem dX5_isImage_1 : decode cX5_isImage 1 = .ok (.getfield 13, 3) := by decide +kernel
theorem dX5_isImage_4 : decode cX5_isImage 4 = .ok (.iload_n 1, 1) := by decide +kernel
theorem dX5_isImage_5 : decode cX5_isImage 5 = .ok (.iaload, 1) := by decide +kernel
theorem dX5_isImage_6 : decode cX5_isImage 6 = .ok (.invokestatic 101, 3) := by decide +kernel
theorem dX5_isImage_9 : decode cX5_isImage 9 = .ok (.aload_n 0, 1) := by decide +kernel
theorem dX5_isImage_10 : decode cX5_isImage 10 = .ok (.getfield 13, 3) := by decide +kernel
theorem dX5_isImage_13 : decode cX5_isImage 13 = .ok (.iload_n 2, 1) := by decide +kernel
theorem dX5_isImage_14 : decode cX5_isImage 14 = .ok (.iaload, 1) := by decide +kernel
theorem dX5_isImage_15 : decode cX5_isImage 15 = .ok (.invokestatic 101, 3) := by decide +kernel
theorem dX5_isImage_18 : decode cX5_isImage 18 = .ok (.if_icmp .eq 5, 3) := by decide +kernel
theorem dX5_isImage_21 : decode cX5_isImage 21 = .ok (.iconst 0, 1) := by decide +kernel
theorem dX5_isImage_22 : decode cX5_isImage 22 = .ok (.ireturn, 1) := by decide +kernel
theorem dX5_isImage_23 : decode cX5_isImage 23 = .ok (.iconst 0, 1) := by decide +kernel
theorem dX5_isImage_24 : decode cX5_isImage 24 = .ok (.istore 4, 2) := by decide +kernel
theorem dX5_isImage_26 : decode cX5_isImage 26 = .ok (.iload 4, 2) := by decide +kernel
theorem dX5_isImage_28 : decode cX5_isImage 28 = .ok (.aload_n 0, 1) := by decide +kernel
theorem dX5_isImage_29 : decode cX5_isImage 29 = .ok (.getfield 66, 3) := by decide +kernel
theorem dX5_isImage_32 : decode cX5_isImage 32 = .ok (.if_icmp .ge 81, 3) := by decide +kernel
theorem dX5_isImage_35 : decode cX5_isImage 35 = .ok (.iload_n 3, 1) := by decide +kernel
theorem dX5_isImage_36 : decode cX5_isImage 36 = .ok (.ifCond .ge 8, 3) := by decide +kernel
theorem dX5_isImage_39 : decode cX5_isImage 39 = .ok (.iload 4, 2) := by decide +kernel
theorem dX5_isImage_41 : decode cX5_isImage 41 = .ok (.goto 15, 3) := by decide +kernel
theorem dX5_isImage_44 : decode cX5_isImage 44 = .ok (.aload_n 0, 1) := by decide +kernel
theorem dX5_isImage_45 : decode cX5_isImage 45 = .ok (.getfield 51, 3) := by decide +kernel
theorem dX5_isImage_48 : decode cX5_isImage 48 = .ok (.bipush 24, 2) := by decide +kernel
theorem dX5_isImage_50 : decode cX5_isImage 50 = .ok (.iload_n 3, 1) := by decide +kernel
theorem dX5_isImage_51 : decode cX5_isImage 51 = .ok (.imul, 1) := by decide +kernel
theorem dX5_isImage_52 : decode cX5_isImage 52 = .ok (.iload 4, 2) := by decide +kernel
theorem dX5_isImage_54 : decode cX5_isImage 54 = .ok (.iadd, 1) := by decide +kernel
theorem dX5_isImage_55 : decode cX5_isImage 55 = .ok (.iaload, 1) := by decide +kernel
theorem dX5_isImage_56 : decode cX5_isImage 56 = .ok (.istore 5, 2) := by decide +kernel
theorem dX5_isImage_58 : decode cX5_isImage 58 = .ok (.aload_n 0, 1) := by decide +kernel
theorem dX5_isImage_59 : decode cX5_isImage 59 = .ok (.iload_n 1, 1) := by decide +kernel
theorem dX5_isImage_60 : decode cX5_isImage 60 = .ok (.iload 4, 2) := by decide +kernel
theorem dX5_isImage_62 : decode cX5_isImage 62 = .ok (.invokevirtual 97, 3) := by decide +kernel
theorem dX5_isImage_65 : decode cX5_isImage 65 = .ok (.ifCond .eq 42, 3) := by decide +kernel
theorem dX5_isImage_68 : decode cX5_isImage 68 = .ok (.aload_n 0, 1) := by decide +kernel
theorem dX5_isImage_69 : decode cX5_isImage 69 = .ok (.iload_n 2, 1) := by decide +kernel
theorem dX5_isImage_70 : decode cX5_isImage 70 = .ok (.iload 5, 2) := by decide +kernel
theorem dX5_isImage_72 : decode cX5_isImage 72 = .ok (.invokevirtual 97, 3) := by decide +kernel
theorem dX5_isImage_75 : decode cX5_isImage 75 = .ok (.ifCond .eq 30, 3) := by decide +kernel
theorem dX5_isImage_78 : decode cX5_isImage 78 = .ok (.aload_n 0, 1) := by decide +kernel
theorem dX5_isImage_79 : decode cX5_isImage 79 = .ok (.getfield 16, 3) := by decide +kernel
theorem dX5_isImage_82 : decode cX5_isImage 82 = .ok (.bipush 24, 2) := by decide +kernel
theorem dX5_isImage_84 : decode cX5_isImage 84 = .ok (.iload_n 1, 1) := by decide +kernel
theorem dX5_isImage_85 : decode cX5_isImage 85 = .ok (.imul, 1) := by decide +kernel
theorem dX5_isImage_86 : decode cX5_isImage 86 = .ok (.iload 4, 2) := by decide +kernel
theorem dX5_isImage_88 : decode cX5_isImage 88 = .ok (.iadd, 1) := by decide +kernel
theorem dX5_isImage_89 : decode cX5_isImage 89 = .ok (.iaload, 1) := by decide +kernel
theorem dX5_isImage_90 : decode cX5_isImage 90 = .ok (.aload_n 0, 1) := by decide +kernel
theorem dX5_isImage_91 : decode cX5_isImage 91 = .ok (.getfield 16, 3) := by decide +kernel
theorem dX5_isImage_94 : decode cX5_isImage 94 = .ok (.bipush 24, 2) := by decide +kernel
theorem dX5_isImage_96 : decode cX5_isImage 96 = .ok (.iload_n 2, 1) := by decide +kernel
theorem dX5_isImage_97 : decode cX5_isImage 97 = .ok (.imul, 1) := by decide +kernel
theorem dX5_isImage_98 : decode cX5_isImage 98 = .ok (.iload 5, 2) := by decide +kernel
theorem dX5_isImage_100 : decode cX5_isImage 100 = .ok (.iadd, 1) := by decide +kernel
theorem dX5_isImage_101 : decode cX5_isImage 101 = .ok (.iaload, 1) := by decide +kernel
theorem dX5_isImage_102 : decode cX5_isImage 102 = .ok (.if_icmp .eq 5, 3) := by decide +kernel
theorem dX5_isImage_105 : decode cX5_isImage 105 = .ok (.iconst 0, 1) := by decide +kernel
theorem dX5_isImage_106 : decode cX5_isImage 106 = .ok (.ireturn, 1) := by decide +kernel
theorem dX5_isImage_107 : decode cX5_isImage 107 = .ok (.iinc 4 1, 3) := by decide +kernel
theorem dX5_isImage_110 : decode cX5_isImage 110 = .ok (.goto (-84), 3) := by decide +kernel
theorem dX5_isImage_113 : decode cX5_isImage 113 = .ok (.iconst 1, 1) := by decide +kernel
theorem dX5_isImage_114 : decode cX5_isImage 114 = .ok (.ireturn, 1) := by decide +kernel
set_option maxRecDepth 20000 in
theorem ggX5_turnsRows_X5_isImage : GoodIn wsX5_turnsRows wsX5_isImage := goodIn_r _ [12, 13, 3, 4, 14, 15, 16, 11, 17, 18, 19, 20, 21, 22, 23, 24, 25, 26, 27, 28, 29, 30, 31, 32, 33, 34, 35, 36, 37, 38, 39, 40, 41, 42, 43, 44, 45, 46, 47, 48, 49, 50, 51, 52, 53, 54] (by decide +kernel) (by decide +kernel)
set_option maxRecDepth 20000 in
theorem gX5_turnsRows_X5_isImage : GoodIn wsX5_turnsRows (wsV RX5 195 RX5 yX5_isImage wsX5_isImage) := goodIn_app (goodIn_r _ [8, 9, 10, 11] (by decide +kernel) (by decide +kernel)) ggX5_turnsRows_X5_isImage
theorem dX5_turnsRows_0 : decode cX5_turnsRows 0 = .ok (.iconst 0, 1) := by decide +kernel
theorem dX5_turnsRows_1 : decode cX5_turnsRows 1 = .ok (.istore_n 1, 1) := by decide +kernel
theorem dX5_turnsRows_2 : decode cX5_turnsRows 2 = .ok (.iload_n 1, 1) := by decide +kernel
theorem dX5_turnsRows_3 : decode cX5_turnsRows 3 = .ok (.aload_n 0, 1) := by decide +kernel
theorem dX5_turnsRows_4 : decode cX5_turnsRows 4 = .ok (.getfield 76, 3) := by decide +kernel
theorem dX5_turnsRows_7 : decode cX5_turnsRows 7 = .ok (.if_icmp .ge 34, 3) := by decide +kernel
theorem dX5_turnsRows_10 : decode cX5_turnsRows 10 = .ok (.iconst 0, 1) := by decide +kernel
theorem dX5_turnsRows_11 : decode cX5_turnsRows 11 = .ok (.istore_n 2, 1) := by decide +kernel
theorem dX5_turnsRows_12 : decode cX5_turnsRows 12 = .ok (.iload_n 2, 1) := by decide +kernel
theorem dX5_turnsRows_13 : decode cX5_turnsRows 13 = .ok (.iload_n 1, 1) := by decide +kernel
theorem dX5_turnsRows_14 : decode cX5_turnsRows 14 = .ok (.if_icmp .ge 21, 3) := by decide +kernel
theorem dX5_turnsRows_17 : decode cX5_turnsRows 17 = .ok (.aload_n 0, 1) := by decide +kernel
theorem dX5_turnsRows_18 : decode cX5_turnsRows 18 = .ok (.iload_n 1, 1) := by decide +kernel
theorem dX5_turnsRows_19 : decode cX5_turnsRows 19 = .ok (.iload_n 2, 1) := by decide +kernel
theorem dX5_turnsRows_20 : decode cX5_turnsRows 20 = .ok (.iconst (-1), 1) := by decide +kernel
theorem dX5_turnsRows_21 : decode cX5_turnsRows 21 = .ok (.invokevirtual 195, 3) := by decide +kernel
theorem dX5_turnsRows_24 : decode cX5_turnsRows 24 = .ok (.ifCond .eq 5, 3) := by decide +kernel
theorem dX5_turnsRows_27 : decode cX5_turnsRows 27 = .ok (.iconst 0, 1) := by decide +kernel
theorem dX5_turnsRows_28 : decode cX5_turnsRows 28 = .ok (.ireturn, 1) := by decide +kernel
theorem dX5_turnsRows_29 : decode cX5_turnsRows 29 = .ok (.iinc 2 1, 3) := by decide +kernel
theorem dX5_turnsRows_32 : decode cX5_turnsRows 32 = .ok (.goto (-20), 3) := by decide +kernel
theorem dX5_turnsRows_35 : decode cX5_turnsRows 35 = .ok (.iinc 1 1, 3) := by decide +kernel
theorem dX5_turnsRows_38 : decode cX5_turnsRows 38 = .ok (.goto (-36), 3) := by decide +kernel
theorem dX5_turnsRows_41 : decode cX5_turnsRows 41 = .ok (.iconst 0, 1) := by decide +kernel
theorem dX5_turnsRows_42 : decode cX5_turnsRows 42 = .ok (.istore_n 1, 1) := by decide +kernel
theorem dX5_turnsRows_43 : decode cX5_turnsRows 43 = .ok (.iload_n 1, 1) := by decide +kernel
theorem dX5_turnsRows_44 : decode cX5_turnsRows 44 = .ok (.aload_n 0, 1) := by decide +kernel
theorem dX5_turnsRows_45 : decode cX5_turnsRows 45 = .ok (.getfield 192, 3) := by decide +kernel
theorem dX5_turnsRows_48 : decode cX5_turnsRows 48 = .ok (.if_icmp .ge 155, 3) := by decide +kernel
theorem dX5_turnsRows_51 : decode cX5_turnsRows 51 = .ok (.iconst 0, 1) := by decide +kernel
theorem dX5_turnsRows_52 : decode cX5_turnsRows 52 = .ok (.istore_n 2, 1) := by decide +kernel
theorem dX5_turnsRows_53 : decode cX5_turnsRows 53 = .ok (.iload_n 2, 1) := by decide +kernel
theorem dX5_turnsRows_54 : decode cX5_turnsRows 54 = .ok (.aload_n 0, 1) := by decide +kernel
theorem dX5_turnsRows_55 : decode cX5_turnsRows 55 = .ok (.getfield 66, 3) := by decide +kernel
theorem dX5_turnsRows_58 : decode cX5_turnsRows 58 = .ok (.if_icmp .ge 75, 3) := by decide +kernel
theorem dX5_turnsRows_61 : decode cX5_turnsRows 61 = .ok (.aload_n 0, 1) := by decide +kernel
theorem dX5_turnsRows_62 : decode cX5_turnsRows 62 = .ok (.getfield 51, 3) := by decide +kernel
theorem dX5_turnsRows_65 : decode cX5_turnsRows 65 = .ok (.bipush 24, 2) := by decide +kernel
theorem dX5_turnsRows_67 : decode cX5_turnsRows 67 = .ok (.iload_n 1, 1) := by decide +kernel
theorem dX5_turnsRows_68 : decode cX5_turnsRows 68 = .ok (.imul, 1) := by decide +kernel
theorem dX5_turnsRows_69 : decode cX5_turnsRows 69 = .ok (.iload_n 2, 1) := by decide +kernel
theorem dX5_turnsRows_70 : decode cX5_turnsRows 70 = .ok (.iadd, 1) := by decide +kernel
theorem dX5_turnsRows_71 : decode cX5_turnsRows 71 = .ok (.iaload, 1) := by decide +kernel
theorem dX5_turnsRows_72 : decode cX5_turnsRows 72 = .ok (.istore_n 3, 1) := by decide +kernel
theorem dX5_turnsRows_73 : decode cX5_turnsRows 73 = .ok (.iload_n 2, 1) := by decide +kernel
theorem dX5_turnsRows_74 : decode cX5_turnsRows 74 = .ok (.aload_n 0, 1) := by decide +kernel
theorem dX5_turnsRows_75 : decode cX5_turnsRows 75 = .ok (.getfield 70, 3) := by decide +kernel
theorem dX5_turnsRows_78 : decode cX5_turnsRows 78 = .ok (.if_icmp .ge 7, 3) := by decide +kernel
theorem dX5_turnsRows_81 : decode cX5_turnsRows 81 = .ok (.iconst 1, 1) := by decide +kernel
theorem dX5_turnsRows_82 : decode cX5_turnsRows 82 = .ok (.goto 4, 3) := by decide +kernel
theorem dX5_turnsRows_85 : decode cX5_turnsRows 85 = .ok (.iconst 0, 1) := by decide +kernel
theorem dX5_turnsRows_86 : decode cX5_turnsRows 86 = .ok (.iload_n 3, 1) := by decide +kernel
theorem dX5_turnsRows_87 : decode cX5_turnsRows 87 = .ok (.aload_n 0, 1) := by decide +kernel
theorem dX5_turnsRows_88 : decode cX5_turnsRows 88 = .ok (.getfield 70, 3) := by decide +kernel
theorem dX5_turnsRows_91 : decode cX5_turnsRows 91 = .ok (.if_icmp .ge 7, 3) := by decide +kernel
theorem dX5_turnsRows_94 : decode cX5_turnsRows 94 = .ok (.iconst 1, 1) := by decide +kernel
theorem dX5_turnsRows_95 : decode cX5_turnsRows 95 = .ok (.goto 4, 3) := by decide +kernel
theorem dX5_turnsRows_98 : decode cX5_turnsRows 98 = .ok (.iconst 0, 1) := by decide +kernel
theorem dX5_turnsRows_99 : decode cX5_turnsRows 99 = .ok (.if_icmp .ne 26, 3) := by decide +kernel
theorem dX5_turnsRows_102 : decode cX5_turnsRows 102 = .ok (.iload_n 2, 1) := by decide +kernel
theorem dX5_turnsRows_103 : decode cX5_turnsRows 103 = .ok (.aload_n 0, 1) := by decide +kernel
theorem dX5_turnsRows_104 : decode cX5_turnsRows 104 = .ok (.getfield 70, 3) := by decide +kernel
theorem dX5_turnsRows_107 : decode cX5_turnsRows 107 = .ok (.if_icmp .ge 20, 3) := by decide +kernel
theorem dX5_turnsRows_110 : decode cX5_turnsRows 110 = .ok (.aload_n 0, 1) := by decide +kernel
theorem dX5_turnsRows_111 : decode cX5_turnsRows 111 = .ok (.getfield 7, 3) := by decide +kernel
theorem dX5_turnsRows_114 : decode cX5_turnsRows 114 = .ok (.iload_n 2, 1) := by decide +kernel
theorem dX5_turnsRows_115 : decode cX5_turnsRows 115 = .ok (.iaload, 1) := by decide +kernel
theorem dX5_turnsRows_116 : decode cX5_turnsRows 116 = .ok (.aload_n 0, 1) := by decide +kernel
theorem dX5_turnsRows_117 : decode cX5_turnsRows 117 = .ok (.getfield 7, 3) := by decide +kernel
theorem dX5_turnsRows_120 : decode cX5_turnsRows 120 = .ok (.iload_n 3, 1) := by decide +kernel
theorem dX5_turnsRows_121 : decode cX5_turnsRows 121 = .ok (.iaload, 1) := by decide +kernel
theorem dX5_turnsRows_122 : decode cX5_turnsRows 122 = .ok (.if_icmp .eq 5, 3) := by decide +kernel
theorem dX5_turnsRows_125 : decode cX5_turnsRows 125 = .ok (.iconst 0, 1) := by decide +kernel
theorem dX5_turnsRows_126 : decode cX5_turnsRows 126 = .ok (.ireturn, 1) := by decide +kernel
theorem dX5_turnsRows_127 : decode cX5_turnsRows 127 = .ok (.iinc 2 1, 3) := by decide +kernel
theorem dX5_turnsRows_130 : decode cX5_turnsRows 130 = .ok (.goto (-77), 3) := by decide +kernel
theorem dX5_turnsRows_133 : decode cX5_turnsRows 133 = .ok (.iconst 0, 1) := by decide +kernel
theorem dX5_turnsRows_134 : decode cX5_turnsRows 134 = .ok (.istore_n 2, 1) := by decide +kernel
theorem dX5_turnsRows_135 : decode cX5_turnsRows 135 = .ok (.iload_n 2, 1) := by decide +kernel
theorem dX5_turnsRows_136 : decode cX5_turnsRows 136 = .ok (.aload_n 0, 1) := by decide +kernel
theorem dX5_turnsRows_137 : decode cX5_turnsRows 137 = .ok (.getfield 76, 3) := by decide +kernel
theorem dX5_turnsRows_140 : decode cX5_turnsRows 140 = .ok (.if_icmp .ge 57, 3) := by decide +kernel
theorem dX5_turnsRows_143 : decode cX5_turnsRows 143 = .ok (.iconst 0, 1) := by decide +kernel
theorem dX5_turnsRows_144 : decode cX5_turnsRows 144 = .ok (.istore_n 3, 1) := by decide +kernel
theorem dX5_turnsRows_145 : decode cX5_turnsRows 145 = .ok (.iload_n 3, 1) := by decide +kernel
theorem dX5_turnsRows_146 : decode cX5_turnsRows 146 = .ok (.aload_n 0, 1) := by decide +kernel
theorem dX5_turnsRows_147 : decode cX5_turnsRows 147 = .ok (.getfield 76, 3) := by decide +kernel
theorem dX5_turnsRows_150 : decode cX5_turnsRows 150 = .ok (.if_icmp .ge 19, 3) := by decide +kernel
theorem dX5_turnsRows_153 : decode cX5_turnsRows 153 = .ok (.aload_n 0, 1) := by decide +kernel
theorem dX5_turnsRows_154 : decode cX5_turnsRows 154 = .ok (.iload_n 2, 1) := by decide +kernel
theorem dX5_turnsRows_155 : decode cX5_turnsRows 155 = .ok (.iload_n 3, 1) := by decide +kernel
theorem dX5_turnsRows_156 : decode cX5_turnsRows 156 = .ok (.iload_n 1, 1) := by decide +kernel
theorem dX5_turnsRows_157 : decode cX5_turnsRows 157 = .ok (.invokevirtual 195, 3) := by decide +kernel
theorem dX5_turnsRows_160 : decode cX5_turnsRows 160 = .ok (.ifCond .ne 9, 3) := by decide +kernel
theorem dX5_turnsRows_163 : decode cX5_turnsRows 163 = .ok (.iinc 3 1, 3) := by decide +kernel
theorem dX5_turnsRows_166 : decode cX5_turnsRows 166 = .ok (.goto (-21), 3) := by decide +kernel
theorem dX5_turnsRows_169 : decode cX5_turnsRows 169 = .ok (.iload_n 3, 1) := by decide +kernel
theorem dX5_turnsRows_170 : decode cX5_turnsRows 170 = .ok (.aload_n 0, 1) := by decide +kernel
theorem dX5_turnsRows_171 : decode cX5_turnsRows 171 = .ok (.getfield 76, 3) := by decide +kernel
theorem dX5_turnsRows_174 : decode cX5_turnsRows 174 = .ok (.if_icmp .ne 5, 3) := by decide +kernel
theorem dX5_turnsRows_177 : decode cX5_turnsRows 177 = .ok (.iconst 0, 1) := by decide +kernel
theorem dX5_turnsRows_178 : decode cX5_turnsRows 178 = .ok (.ireturn, 1) := by decide +kernel
theorem dX5_turnsRows_179 : decode cX5_turnsRows 179 = .ok (.aload_n 0, 1) := by decide +kernel
theorem dX5_turnsRows_180 : decode cX5_turnsRows 180 = .ok (.getfield 54, 3) := by decide +kernel
theorem dX5_turnsRows_183 : decode cX5_turnsRows 183 = .ok (.bipush 60, 2) := by decide +kernel
theorem dX5_turnsRows_185 : decode cX5_turnsRows 185 = .ok (.iload_n 1, 1) := by decide +kernel
theorem dX5_turnsRows_186 : decode cX5_turnsRows 186 = .ok (.imul, 1) := by decide +kernel
theorem dX5_turnsRows_187 : decode cX5_turnsRows 187 = .ok (.iload_n 2, 1) := by decide +kernel
theorem dX5_turnsRows_188 : decode cX5_turnsRows 188 = .ok (.iadd, 1) := by decide +kernel
theorem dX5_turnsRows_189 : decode cX5_turnsRows 189 = .ok (.iload_n 3, 1) := by decide +kernel
theorem dX5_turnsRows_190 : decode cX5_turnsRows 190 = .ok (.iastore, 1) := by decide +kernel
theorem dX5_turnsRows_191 : decode cX5_turnsRows 191 = .ok (.iinc 2 1, 3) := by decide +kernel
theorem dX5_turnsRows_194 : decode cX5_turnsRows 194 = .ok (.goto (-59), 3) := by decide +kernel
theorem dX5_turnsRows_197 : decode cX5_turnsRows 197 = .ok (.iinc 1 1, 3) := by decide +kernel
theorem dX5_turnsRows_200 : decode cX5_turnsRows 200 = .ok (.goto (-157), 3) := by decide +kernel
theorem dX5_turnsRows_203 : decode cX5_turnsRows 203 = .ok (.iconst 1, 1) := by decide +kernel
theorem dX5_turnsRows_204 : decode cX5_turnsRows 204 = .ok (.ireturn, 1) := by decide +kernel
theorem dX5_wayOf_0 : decode cX5_wayOf 0 = .ok (.iconst 0, 1) := by decide +kernel
theorem dX5_wayOf_1 : decode cX5_wayOf 1 = .ok (.istore_n 3, 1) := by decide +kernel
theorem dX5_wayOf_2 : decode cX5_wayOf 2 = .ok (.iload_n 3, 1) := by decide +kernel
theorem dX5_wayOf_3 : decode cX5_wayOf 3 = .ok (.aload_n 0, 1) := by decide +kernel
theorem dX5_wayOf_4 : decode cX5_wayOf 4 = .ok (.getfield 158, 3) := by decide +kernel
theorem dX5_wayOf_7 : decode cX5_wayOf 7 = .ok (.if_icmp .ge 22, 3) := by decide +kernel
theorem dX5_wayOf_10 : decode cX5_wayOf 10 = .ok (.aload_n 0, 1) := by decide +kernel
theorem dX5_wayOf_11 : decode cX5_wayOf 11 = .ok (.getfield 48, 3) := by decide +kernel
theorem dX5_wayOf_14 : decode cX5_wayOf 14 = .ok (.iload_n 3, 1) := by decide +kernel
theorem dX5_wayOf_15 : decode cX5_wayOf 15 = .ok (.laload, 1) := by decide +kernel
theorem dX5_wayOf_16 : decode cX5_wayOf 16 = .ok (.lload_n 1, 1) := by decide +kernel
theorem dX5_wayOf_17 : decode cX5_wayOf 17 = .ok (.lcmp, 1) := by decide +kernel
theorem dX5_wayOf_18 : decode cX5_wayOf 18 = .ok (.ifCond .ne 5, 3) := by decide +kernel
theorem dX5_wayOf_21 : decode cX5_wayOf 21 = .ok (.iload_n 3, 1) := by decide +kernel
theorem dX5_wayOf_22 : decode cX5_wayOf 22 = .ok (.ireturn, 1) := by decide +kernel
theorem dX5_wayOf_23 : decode cX5_wayOf 23 = .ok (.iinc 3 1, 3) := by decide +kernel
theorem dX5_wayOf_26 : decode cX5_wayOf 26 = .ok (.goto (-24), 3) := by decide +kernel
theorem dX5_wayOf_29 : decode cX5_wayOf 29 = .ok (.iconst (-1), 1) := by decide +kernel
theorem dX5_wayOf_30 : decode cX5_wayOf 30 = .ok (.ireturn, 1) := by decide +kernel
set_option maxRecDepth 20000 in
theorem ggX5_classes_X5_turnsRows : GoodIn wsX5_classes wsX5_turnsRows := goodIn_r _ [14, 8, 7, 15, 16, 17, 18, 9, 19, 20, 21, 13, 22, 23, 24, 25, 26, 27, 28, 29, 30, 31, 83, 84, 85, 86, 87, 88, 89, 90, 91, 92, 93, 94, 95, 96, 97, 98, 99, 100, 101, 102, 103, 104, 105, 106, 107, 108, 109, 110, 111, 112, 113, 114, 115] (by decide +kernel) (by decide +kernel)
set_option maxRecDepth 20000 in
theorem gX5_classes_X5_turnsRows : GoodIn wsX5_classes (wsV RX5 198 RX5 yX5_turnsRows wsX5_turnsRows) := goodIn_app (goodIn_r _ [10, 11, 12, 13] (by decide +kernel) (by decide +kernel)) ggX5_classes_X5_turnsRows
set_option maxRecDepth 20000 in
theorem ggX5_classes_X5_search : GoodIn wsX5_classes wsX5_search := goodIn_r _ [35, 36, 5, 37, 4, 38, 39, 8, 40, 41, 42, 43, 44, 13, 45, 46, 47, 2, 48, 49, 50, 51, 52, 15, 53, 24, 28, 29, 30, 31, 23, 54, 55, 56, 57, 58, 59, 60, 61, 62, 17, 18, 63, 64, 65, 66, 67, 68, 69, 70, 71, 72, 73, 74, 75, 76, 77, 78, 83, 84, 85, 86, 87, 88, 89, 90, 91, 92, 93, 94, 95, 96, 97, 98, 99, 100, 101, 102, 103, 104, 105, 106, 107, 108, 109, 110, 111, 112, 113, 114, 115] (by decide +kernel) (by decide +kernel)
set_option maxRecDepth 20000 in
theorem gX5_classes_X5_search : GoodIn wsX5_classes (wsV RX5 185 RX5 yX5_search wsX5_search) := goodIn_app (goodIn_r _ [32, 33, 34, 13] (by decide +kernel) (by decide +kernel)) ggX5_classes_X5_search
set_option maxRecDepth 20000 in
theorem ggX5_classes_X5_wayOf : GoodIn wsX5_classes wsX5_wayOf := goodIn_r _ [82, 5, 3, 83, 84, 85, 86, 87, 88, 89, 90, 91, 92, 93, 94, 95, 96, 97, 98, 99, 100, 101, 102, 103, 104, 105, 106, 107, 108, 109, 110, 111, 112, 113, 114, 115] (by decide +kernel) (by decide +kernel)
set_option maxRecDepth 20000 in
theorem gX5_classes_X5_wayOf : GoodIn wsX5_classes (wsV RX5 202 RX5 yX5_wayOf wsX5_wayOf) := goodIn_app (goodIn_r _ [79, 80, 81, 13] (by decide +kernel) (by decide +kernel)) ggX5_classes_X5_wayOf
theorem dX5_classes_0 : decode cX5_classes 0 = .ok (.aload_n 0, 1) := by decide +kernel
theorem dX5_classes_1 : decode cX5_classes 1 = .ok (.iconst 0, 1) := by decide +kernel
theorem dX5_classes_2 : decode cX5_classes 2 = .ok (.putfield 73, 3) := by decide +kernel
theorem dX5_classes_5 : decode cX5_classes 5 = .ok (.aload_n 0, 1) := by decide +kernel
theorem dX5_classes_6 : decode cX5_classes 6 = .ok (.invokevirtual 198, 3) := by decide +kernel
theorem dX5_classes_9 : decode cX5_classes 9 = .ok (.ifCond .ne 5, 3) := by decide +kernel
theorem dX5_classes_12 : decode cX5_classes 12 = .ok (.iconst (-1), 1) := by decide +kernel
theorem dX5_classes_13 : decode cX5_classes 13 = .ok (.ireturn, 1) := by decide +kernel
theorem dX5_classes_14 : decode cX5_classes 14 = .ok (.aload_n 0, 1) := by decide +kernel
theorem dX5_classes_15 : decode cX5_classes 15 = .ok (.getfield 87, 3) := by decide +kernel
theorem dX5_classes_18 : decode cX5_classes 18 = .ok (.istore_n 1, 1) := by decide +kernel
theorem dX5_classes_19 : decode cX5_classes 19 = .ok (.aload_n 0, 1) := by decide +kernel
theorem dX5_classes_20 : decode cX5_classes 20 = .ok (.iconst 0, 1) := by decide +kernel
theorem dX5_classes_21 : decode cX5_classes 21 = .ok (.putfield 87, 3) := by decide +kernel
theorem dX5_classes_24 : decode cX5_classes 24 = .ok (.aload_n 0, 1) := by decide +kernel
theorem dX5_classes_25 : decode cX5_classes 25 = .ok (.aload_n 0, 1) := by decide +kernel
theorem dX5_classes_26 : decode cX5_classes 26 = .ok (.getfield 48, 3) := by decide +kernel
theorem dX5_classes_29 : decode cX5_classes 29 = .ok (.bipush 101, 2) := by decide +kernel
theorem dX5_classes_31 : decode cX5_classes 31 = .ok (.invokevirtual 185, 3) := by decide +kernel
theorem dX5_classes_34 : decode cX5_classes 34 = .ok (.aload_n 0, 1) := by decide +kernel
theorem dX5_classes_35 : decode cX5_classes 35 = .ok (.iload_n 1, 1) := by decide +kernel
theorem dX5_classes_36 : decode cX5_classes 36 = .ok (.putfield 87, 3) := by decide +kernel
theorem dX5_classes_39 : decode cX5_classes 39 = .ok (.aload_n 0, 1) := by decide +kernel
theorem dX5_classes_40 : decode cX5_classes 40 = .ok (.getfield 165, 3) := by decide +kernel
theorem dX5_classes_43 : decode cX5_classes 43 = .ok (.ifCond .ne 12, 3) := by decide +kernel
theorem dX5_classes_46 : decode cX5_classes 46 = .ok (.aload_n 0, 1) := by decide +kernel
theorem dX5_classes_47 : decode cX5_classes 47 = .ok (.getfield 158, 3) := by decide +kernel
theorem dX5_classes_50 : decode cX5_classes 50 = .ok (.bipush 100, 2) := by decide +kernel
theorem dX5_classes_52 : decode cX5_classes 52 = .ok (.if_icmp .le 6, 3) := by decide +kernel
theorem dX5_classes_55 : decode cX5_classes 55 = .ok (.bipush (-2), 2) := by decide +kernel
theorem dX5_classes_57 : decode cX5_classes 57 = .ok (.ireturn, 1) := by decide +kernel
theorem dX5_classes_58 : decode cX5_classes 58 = .ok (.iconst 0, 1) := by decide +kernel
theorem dX5_classes_59 : decode cX5_classes 59 = .ok (.istore_n 2, 1) := by decide +kernel
theorem dX5_classes_60 : decode cX5_classes 60 = .ok (.iload_n 2, 1) := by decide +kernel
theorem dX5_classes_61 : decode cX5_classes 61 = .ok (.aload_n 0, 1) := by decide +kernel
theorem dX5_classes_62 : decode cX5_classes 62 = .ok (.getfield 158, 3) := by decide +kernel
theorem dX5_classes_65 : decode cX5_classes 65 = .ok (.if_icmp .ge 16, 3) := by decide +kernel
theorem dX5_classes_68 : decode cX5_classes 68 = .ok (.aload_n 0, 1) := by decide +kernel
theorem dX5_classes_69 : decode cX5_classes 69 = .ok (.getfield 57, 3) := by decide +kernel
theorem dX5_classes_72 : decode cX5_classes 72 = .ok (.iload_n 2, 1) := by decide +kernel
theorem dX5_classes_73 : decode cX5_classes 73 = .ok (.iload_n 2, 1) := by decide +kernel
theorem dX5_classes_74 : decode cX5_classes 74 = .ok (.iastore, 1) := by decide +kernel
theorem dX5_classes_75 : decode cX5_classes 75 = .ok (.iinc 2 1, 3) := by decide +kernel
theorem dX5_classes_78 : decode cX5_classes 78 = .ok (.goto (-18), 3) := by decide +kernel
theorem dX5_classes_81 : decode cX5_classes 81 = .ok (.iconst 1, 1) := by decide +kernel
theorem dX5_classes_82 : decode cX5_classes 82 = .ok (.istore_n 2, 1) := by decide +kernel
theorem dX5_classes_83 : decode cX5_classes 83 = .ok (.iload_n 2, 1) := by decide +kernel
theorem dX5_classes_84 : decode cX5_classes 84 = .ok (.ifCond .eq 195, 3) := by decide +kernel
theorem dX5_classes_87 : decode cX5_classes 87 = .ok (.iconst 0, 1) := by decide +kernel
theorem dX5_classes_88 : decode cX5_classes 88 = .ok (.istore_n 2, 1) := by decide +kernel
theorem dX5_classes_89 : decode cX5_classes 89 = .ok (.iconst 0, 1) := by decide +kernel
theorem dX5_classes_90 : decode cX5_classes 90 = .ok (.istore_n 3, 1) := by decide +kernel
theorem dX5_classes_91 : decode cX5_classes 91 = .ok (.iload_n 3, 1) := by decide +kernel
theorem dX5_classes_92 : decode cX5_classes 92 = .ok (.aload_n 0, 1) := by decide +kernel
theorem dX5_classes_93 : decode cX5_classes 93 = .ok (.getfield 158, 3) := by decide +kernel
theorem dX5_classes_96 : decode cX5_classes 96 = .ok (.if_icmp .ge 180, 3) := by decide +kernel
theorem dX5_classes_99 : decode cX5_classes 99 = .ok (.iconst 0, 1) := by decide +kernel
theorem dX5_classes_100 : decode cX5_classes 100 = .ok (.istore 4, 2) := by decide +kernel
theorem dX5_classes_102 : decode cX5_classes 102 = .ok (.iload 4, 2) := by decide +kernel
theorem dX5_classes_104 : decode cX5_classes 104 = .ok (.aload_n 0, 1) := by decide +kernel
theorem dX5_classes_105 : decode cX5_classes 105 = .ok (.getfield 192, 3) := by decide +kernel
theorem dX5_classes_108 : decode cX5_classes 108 = .ok (.if_icmp .ge 162, 3) := by decide +kernel
theorem dX5_classes_111 : decode cX5_classes 111 = .ok (.lconst 0, 1) := by decide +kernel
theorem dX5_classes_112 : decode cX5_classes 112 = .ok (.lstore 5, 2) := by decide +kernel
theorem dX5_classes_114 : decode cX5_classes 114 = .ok (.iconst 0, 1) := by decide +kernel
theorem dX5_classes_115 : decode cX5_classes 115 = .ok (.istore 7, 2) := by decide +kernel
theorem dX5_classes_117 : decode cX5_classes 117 = .ok (.iload 7, 2) := by decide +kernel
theorem dX5_classes_119 : decode cX5_classes 119 = .ok (.aload_n 0, 1) := by decide +kernel
theorem dX5_classes_120 : decode cX5_classes 120 = .ok (.getfield 76, 3) := by decide +kernel
theorem dX5_classes_123 : decode cX5_classes 123 = .ok (.if_icmp .ge 49, 3) := by decide +kernel
theorem dX5_classes_126 : decode cX5_classes 126 = .ok (.lload 5, 2) := by decide +kernel
theorem dX5_classes_128 : decode cX5_classes 128 = .ok (.aload_n 0, 1) := by decide +kernel
theorem dX5_classes_129 : decode cX5_classes 129 = .ok (.getfield 48, 3) := by decide +kernel
theorem dX5_classes_132 : decode cX5_classes 132 = .ok (.iload_n 3, 1) := by decide +kernel
theorem dX5_classes_133 : decode cX5_classes 133 = .ok (.laload, 1) := by decide +kernel
theorem dX5_classes_134 : decode cX5_classes 134 = .ok (.iload 7, 2) := by decide +kernel
theorem dX5_classes_136 : decode cX5_classes 136 = .ok (.lshr, 1) := by decide +kernel
theorem dX5_classes_137 : decode cX5_classes 137 = .ok (.lconst 1, 1) := by decide +kernel
theorem dX5_classes_138 : decode cX5_classes 138 = .ok (.land, 1) := by decide +kernel
theorem dX5_classes_139 : decode cX5_classes 139 = .ok (.lconst 1, 1) := by decide +kernel
theorem dX5_classes_140 : decode cX5_classes 140 = .ok (.lcmp, 1) := by decide +kernel
theorem dX5_classes_141 : decode cX5_classes 141 = .ok (.ifCond .ne 21, 3) := by decide +kernel
theorem dX5_classes_144 : decode cX5_classes 144 = .ok (.lconst 1, 1) := by decide +kernel
theorem dX5_classes_145 : decode cX5_classes 145 = .ok (.aload_n 0, 1) := by decide +kernel
theorem dX5_classes_146 : decode cX5_classes 146 = .ok (.getfield 54, 3) := by decide +kernel
theorem dX5_classes_149 : decode cX5_classes 149 = .ok (.bipush 60, 2) := by decide +kernel
theorem dX5_classes_151 : decode cX5_classes 151 = .ok (.iload 4, 2) := by decide +kernel
theorem dX5_classes_153 : decode cX5_classes 153 = .ok (.imul, 1) := by decide +kernel
theorem dX5_classes_154 : decode cX5_classes 154 = .ok (.iload 7, 2) := by decide +kernel
theorem dX5_classes_156 : decode cX5_classes 156 = .ok (.iadd, 1) := by decide +kernel
theorem dX5_classes_157 : decode cX5_classes 157 = .ok (.iaload, 1) := by decide +kernel
theorem dX5_classes_158 : decode cX5_classes 158 = .ok (.lshl, 1) := by decide +kernel
theorem dX5_classes_159 : decode cX5_classes 159 = .ok (.goto 4, 3) := by decide +kernel
theorem dX5_classes_162 : decode cX5_classes 162 = .ok (.lconst 0, 1) := by decide +kernel
theorem dX5_classes_163 : decode cX5_classes 163 = .ok (.lor, 1) := by decide +kernel
theorem dX5_classes_164 : decode cX5_classes 164 = .ok (.lstore 5, 2) := by decide +kernel
theorem dX5_classes_166 : decode cX5_classes 166 = .ok (.iinc 7 1, 3) := by decide +kernel
theorem dX5_classes_169 : decode cX5_classes 169 = .ok (.goto (-52), 3) := by decide +kernel
theorem dX5_classes_172 : decode cX5_classes 172 = .ok (.aload_n 0, 1) := by decide +kernel
theorem dX5_classes_173 : decode cX5_classes 173 = .ok (.lload 5, 2) := by decide +kernel
theorem dX5_classes_175 : decode cX5_classes 175 = .ok (.invokevirtual 202, 3) := by decide +kernel
theorem dX5_classes_178 : decode cX5_classes 178 = .ok (.istore 7, 2) := by decide +kernel
theorem dX5_classes_180 : decode cX5_classes 180 = .ok (.aload_n 0, 1) := by decide +kernel
theorem dX5_classes_181 : decode cX5_classes 181 = .ok (.getfield 57, 3) := by decide +kernel
theorem dX5_classes_184 : decode cX5_classes 184 = .ok (.iload 7, 2) := by decide +kernel
theorem dX5_classes_186 : decode cX5_classes 186 = .ok (.iaload, 1) := by decide +kernel
theorem dX5_classes_187 : decode cX5_classes 187 = .ok (.aload_n 0, 1) := by decide +kernel
theorem dX5_classes_188 : decode cX5_classes 188 = .ok (.getfield 57, 3) := by decide +kernel
theorem dX5_classes_191 : decode cX5_classes 191 = .ok (.iload_n 3, 1) := by decide +kernel
theorem dX5_classes_192 : decode cX5_classes 192 = .ok (.iaload, 1) := by decide +kernel
theorem dX5_classes_193 : decode cX5_classes 193 = .ok (.if_icmp .ge 13, 3) := by decide +kernel
theorem dX5_classes_196 : decode cX5_classes 196 = .ok (.aload_n 0, 1) := by decide +kernel
theorem dX5_classes_197 : decode cX5_classes 197 = .ok (.getfield 57, 3) := by decide +kernel
theorem dX5_classes_200 : decode cX5_classes 200 = .ok (.iload 7, 2) := by decide +kernel
theorem dX5_classes_202 : decode cX5_classes 202 = .ok (.iaload, 1) := by decide +kernel
theorem dX5_classes_203 : decode cX5_classes 203 = .ok (.goto 9, 3) := by decide +kernel
theorem dX5_classes_206 : decode cX5_classes 206 = .ok (.aload_n 0, 1) := by decide +kernel
theorem dX5_classes_207 : decode cX5_classes 207 = .ok (.getfield 57, 3) := by decide +kernel
theorem dX5_classes_210 : decode cX5_classes 210 = .ok (.iload_n 3, 1) := by decide +kernel
theorem dX5_classes_211 : decode cX5_classes 211 = .ok (.iaload, 1) := by decide +kernel
theorem dX5_classes_212 : decode cX5_classes 212 = .ok (.istore 8, 2) := by decide +kernel
theorem dX5_classes_214 : decode cX5_classes 214 = .ok (.iload_n 2, 1) := by decide +kernel
theorem dX5_classes_215 : decode cX5_classes 215 = .ok (.ifCond .ne 26, 3) := by decide +kernel
theorem dX5_classes_218 : decode cX5_classes 218 = .ok (.aload_n 0, 1) := by decide +kernel
theorem dX5_classes_219 : decode cX5_classes 219 = .ok (.getfield 57, 3) := by decide +kernel
theorem dX5_classes_222 : decode cX5_classes 222 = .ok (.iload 7, 2) := by decide +kernel
theorem dX5_classes_224 : decode cX5_classes 224 = .ok (.iaload, 1) := by decide +kernel
theorem dX5_classes_225 : decode cX5_classes 225 = .ok (.iload 8, 2) := by decide +kernel
theorem dX5_classes_227 : decode cX5_classes 227 = .ok (.if_icmp .ne 14, 3) := by decide +kernel
theorem dX5_classes_230 : decode cX5_classes 230 = .ok (.aload_n 0, 1) := by decide +kernel
theorem dX5_classes_231 : decode cX5_classes 231 = .ok (.getfield 57, 3) := by decide +kernel
theorem dX5_classes_234 : decode cX5_classes 234 = .ok (.iload_n 3, 1) := by decide +kernel
theorem dX5_classes_235 : decode cX5_classes 235 = .ok (.iaload, 1) := by decide +kernel
theorem dX5_classes_236 : decode cX5_classes 236 = .ok (.iload 8, 2) := by decide +kernel
theorem dX5_classes_238 : decode cX5_classes 238 = .ok (.if_icmp .eq 7, 3) := by decide +kernel
theorem dX5_classes_241 : decode cX5_classes 241 = .ok (.iconst 1, 1) := by decide +kernel
theorem dX5_classes_242 : decode cX5_classes 242 = .ok (.goto 4, 3) := by decide +kernel
theorem dX5_classes_245 : decode cX5_classes 245 = .ok (.iconst 0, 1) := by decide +kernel
theorem dX5_classes_246 : decode cX5_classes 246 = .ok (.istore_n 2, 1) := by decide +kernel
theorem dX5_classes_247 : decode cX5_classes 247 = .ok (.aload_n 0, 1) := by decide +kernel
theorem dX5_classes_248 : decode cX5_classes 248 = .ok (.getfield 57, 3) := by decide +kernel
theorem dX5_classes_251 : decode cX5_classes 251 = .ok (.iload 7, 2) := by decide +kernel
theorem dX5_classes_253 : decode cX5_classes 253 = .ok (.iload 8, 2) := by decide +kernel
theorem dX5_classes_255 : decode cX5_classes 255 = .ok (.iastore, 1) := by decide +kernel
theorem dX5_classes_256 : decode cX5_classes 256 = .ok (.aload_n 0, 1) := by decide +kernel
theorem dX5_classes_257 : decode cX5_classes 257 = .ok (.getfield 57, 3) := by decide +kernel
theorem dX5_classes_260 : decode cX5_classes 260 = .ok (.iload_n 3, 1) := by decide +kernel
theorem dX5_classes_261 : decode cX5_classes 261 = .ok (.iload 8, 2) := by decide +kernel
theorem dX5_classes_263 : decode cX5_classes 263 = .ok (.iastore, 1) := by decide +kernel
theorem dX5_classes_264 : decode cX5_classes 264 = .ok (.iinc 4 1, 3) := by decide +kernel
theorem dX5_classes_267 : decode cX5_classes 267 = .ok (.goto (-165), 3) := by decide +kernel
theorem dX5_classes_270 : decode cX5_classes 270 = .ok (.iinc 3 1, 3) := by decide +kernel
theorem dX5_classes_273 : decode cX5_classes 273 = .ok (.goto (-182), 3) := by decide +kernel
theorem dX5_classes_276 : decode cX5_classes 276 = .ok (.goto (-193), 3) := by decide +kernel
theorem dX5_classes_279 : decode cX5_classes 279 = .ok (.iconst 0, 1) := by decide +kernel
theorem dX5_classes_280 : decode cX5_classes 280 = .ok (.istore_n 3, 1) := by decide +kernel
theorem dX5_classes_281 : decode cX5_classes 281 = .ok (.iconst 0, 1) := by decide +kernel
theorem dX5_classes_282 : decode cX5_classes 282 = .ok (.istore 4, 2) := by decide +kernel
theorem dX5_classes_284 : decode cX5_classes 284 = .ok (.iload 4, 2) := by decide +kernel
theorem dX5_classes_286 : decode cX5_classes 286 = .ok (.aload_n 0, 1) := by decide +kernel
theorem dX5_classes_287 : decode cX5_classes 287 = .ok (.getfield 158, 3) := by decide +kernel
theorem dX5_classes_290 : decode cX5_classes 290 = .ok (.if_icmp .ge 29, 3) := by decide +kernel
theorem dX5_classes_293 : decode cX5_classes 293 = .ok (.iload_n 3, 1) := by decide +kernel
theorem dX5_classes_294 : decode cX5_classes 294 = .ok (.aload_n 0, 1) := by decide +kernel
theorem dX5_classes_295 : decode cX5_classes 295 = .ok (.getfield 57, 3) := by decide +kernel
theorem dX5_classes_298 : decode cX5_classes 298 = .ok (.iload 4, 2) := by decide +kernel
theorem dX5_classes_300 : decode cX5_classes 300 = .ok (.iaload, 1) := by decide +kernel
theorem dX5_classes_301 : decode cX5_classes 301 = .ok (.iload 4, 2) := by decide +kernel
theorem dX5_classes_303 : decode cX5_classes 303 = .ok (.if_icmp .ne 7, 3) := by decide +kernel
theorem dX5_classes_306 : decode cX5_classes 306 = .ok (.iconst 1, 1) := by decide +kernel
theorem dX5_classes_307 : decode cX5_classes 307 = .ok (.goto 4, 3) := by decide +kernel
theorem dX5_classes_310 : decode cX5_classes 310 = .ok (.iconst 0, 1) := by decide +kernel
theorem dX5_classes_311 : decode cX5_classes 311 = .ok (.iadd, 1) := by decide +kernel
theorem dX5_classes_312 : decode cX5_classes 312 = .ok (.istore_n 3, 1) := by decide +kernel
theorem dX5_classes_313 : decode cX5_classes 313 = .ok (.iinc 4 1, 3) := by decide +kernel
theorem dX5_classes_316 : decode cX5_classes 316 = .ok (.goto (-32), 3) := by decide +kernel
theorem dX5_classes_319 : decode cX5_classes 319 = .ok (.iload_n 3, 1) := by decide +kernel
theorem dX5_classes_320 : decode cX5_classes 320 = .ok (.ireturn, 1) := by decide +kernel
set_option maxRecDepth 20000 in
theorem ggX5_tell_X5_isRow : GoodIn wsX5_tell wsX5_isRow := goodIn_r _ [7, 8, 21, 22, 23, 24, 25, 26, 27, 28, 29, 30, 31, 32, 33, 34, 35, 36, 37, 38, 39, 40, 41, 42, 43, 44, 45, 46, 47, 48, 49, 50, 51, 52, 53] (by decide +kernel) (by decide +kernel)
set_option maxRecDepth 20000 in
theorem gX5_tell_X5_isRow : GoodIn wsX5_tell (wsV RX5 143 RX5 yX5_isRow wsX5_isRow) := goodIn_app (goodIn_r _ [3, 4, 5, 6] (by decide +kernel) (by decide +kernel)) ggX5_tell_X5_isRow
set_option maxRecDepth 20000 in
theorem ggX5_tell_X5_throwsIf : GoodIn wsX5_tell wsX5_throwsIf := goodIn_r _ [12, 13, 21, 22, 23, 24, 25, 26, 27, 28, 29, 30, 31, 32, 33, 34, 35, 36, 37, 38, 39, 40, 41, 42, 43, 44, 45, 46, 47, 48, 49, 50, 51, 52, 53] (by decide +kernel) (by decide +kernel)
set_option maxRecDepth 20000 in
theorem gX5_tell_X5_throwsIf : GoodIn wsX5_tell (wsV RX5 83 RX5 yX5_throwsIf wsX5_throwsIf) := goodIn_app (goodIn_r _ [9, 10, 11, 6] (by decide +kernel) (by decide +kernel)) ggX5_tell_X5_throwsIf
set_option maxRecDepth 20000 in
theorem ggX5_tell_X5_countOf : GoodIn wsX5_tell wsX5_countOf := goodIn_r _ [16] (by decide +kernel) (by decide +kernel)
set_option maxRecDepth 20000 in
theorem gX5_tell_X5_countOf : GoodIn wsX5_tell (va_wsS RX5 101 yX5_countOf wsX5_countOf) := goodIn_app (goodIn_r _ [14, 15, 6] (by decide +kernel) (by decide +kernel)) ggX5_tell_X5_countOf
set_option maxRecDepth 20000 in
theorem ggX5_tell_X5_has : GoodIn wsX5_tell wsX5_has := goodIn_r _ [20, 1, 21, 22, 23, 24, 25, 26, 27, 28, 29, 30, 31, 32, 33, 34, 35, 36, 37, 38, 39, 40, 41, 42, 43, 44, 45, 46, 47, 48, 49, 50, 51, 52, 53] (by decide +kernel) (by decide +kernel)
set_option maxRecDepth 20000 in
theorem gX5_tell_X5_has : GoodIn wsX5_tell (wsV RX5 97 RX5 yX5_has wsX5_has) := goodIn_app (goodIn_r _ [17, 18, 19, 6] (by decide +kernel) (by decide +kernel)) ggX5_tell_X5_has
theorem dX5_tell_0 : decode cX5_tell 0 = .ok (.aload_n 0, 1) := by decide +kernel
theorem dX5_tell_1 : decode cX5_tell 1 = .ok (.iconst 1, 1) := by decide +kernel
theorem dX5_tell_2 : decode cX5_tell 2 = .ok (.aload_n 0, 1) := by decide +kernel
theorem dX5_tell_3 : decode cX5_tell 3 = .ok (.iload_n 1, 1) := by decide +kernel
theorem dX5_tell_4 : decode cX5_tell 4 = .ok (.invokevirtual 143, 3) := by decide +kernel
theorem dX5_tell_7 : decode cX5_tell 7 = .ok (.ifCond .ne 7, 3) := by decide +kernel
theorem dX5_tell_10 : decode cX5_tell 10 = .ok (.iconst 1, 1) := by decide +kernel
theorem dX5_tell_11 : decode cX5_tell 11 = .ok (.goto 4, 3) := by decide +kernel
theorem dX5_tell_14 : decode cX5_tell 14 = .ok (.iconst 0, 1) := by decide +kernel
theorem dX5_tell_15 : decode cX5_tell 15 = .ok (.invokevirtual 83, 3) := by decide +kernel
theorem dX5_tell_18 : decode cX5_tell 18 = .ok (.ifCond .eq 5, 3) := by decide +kernel
theorem dX5_tell_21 : decode cX5_tell 21 = .ok (.iconst 0, 1) := by decide +kernel
theorem dX5_tell_22 : decode cX5_tell 22 = .ok (.ireturn, 1) := by decide +kernel
theorem dX5_tell_23 : decode cX5_tell 23 = .ok (.iload_n 2, 1) := by decide +kernel
theorem dX5_tell_24 : decode cX5_tell 24 = .ok (.ifCond .ne 13, 3) := by decide +kernel
theorem dX5_tell_27 : decode cX5_tell 27 = .ok (.aload_n 0, 1) := by decide +kernel
theorem dX5_tell_28 : decode cX5_tell 28 = .ok (.getfield 13, 3) := by decide +kernel
theorem dX5_tell_31 : decode cX5_tell 31 = .ok (.iload_n 1, 1) := by decide +kernel
theorem dX5_tell_32 : decode cX5_tell 32 = .ok (.iaload, 1) := by decide +kernel
theorem dX5_tell_33 : decode cX5_tell 33 = .ok (.invokestatic 101, 3) := by decide +kernel
theorem dX5_tell_36 : decode cX5_tell 36 = .ok (.ireturn, 1) := by decide +kernel
theorem dX5_tell_37 : decode cX5_tell 37 = .ok (.iconst 0, 1) := by decide +kernel
theorem dX5_tell_38 : decode cX5_tell 38 = .ok (.istore_n 3, 1) := by decide +kernel
theorem dX5_tell_39 : decode cX5_tell 39 = .ok (.iconst 0, 1) := by decide +kernel
theorem dX5_tell_40 : decode cX5_tell 40 = .ok (.istore 4, 2) := by decide +kernel
theorem dX5_tell_42 : decode cX5_tell 42 = .ok (.iload 4, 2) := by decide +kernel
theorem dX5_tell_44 : decode cX5_tell 44 = .ok (.aload_n 0, 1) := by decide +kernel
theorem dX5_tell_45 : decode cX5_tell 45 = .ok (.getfield 66, 3) := by decide +kernel
theorem dX5_tell_48 : decode cX5_tell 48 = .ok (.if_icmp .ge 33, 3) := by decide +kernel
theorem dX5_tell_51 : decode cX5_tell 51 = .ok (.aload_n 0, 1) := by decide +kernel
theorem dX5_tell_52 : decode cX5_tell 52 = .ok (.iload_n 1, 1) := by decide +kernel
theorem dX5_tell_53 : decode cX5_tell 53 = .ok (.iload 4, 2) := by decide +kernel
theorem dX5_tell_55 : decode cX5_tell 55 = .ok (.invokevirtual 97, 3) := by decide +kernel
theorem dX5_tell_58 : decode cX5_tell 58 = .ok (.ifCond .ne 6, 3) := by decide +kernel
theorem dX5_tell_61 : decode cX5_tell 61 = .ok (.goto 14, 3) := by decide +kernel
theorem dX5_tell_64 : decode cX5_tell 64 = .ok (.iinc 3 1, 3) := by decide +kernel
theorem dX5_tell_67 : decode cX5_tell 67 = .ok (.iload_n 3, 1) := by decide +kernel
theorem dX5_tell_68 : decode cX5_tell 68 = .ok (.iload_n 2, 1) := by decide +kernel
theorem dX5_tell_69 : decode cX5_tell 69 = .ok (.if_icmp .ne 6, 3) := by decide +kernel
theorem dX5_tell_72 : decode cX5_tell 72 = .ok (.iload 4, 2) := by decide +kernel
theorem dX5_tell_74 : decode cX5_tell 74 = .ok (.ireturn, 1) := by decide +kernel
theorem dX5_tell_75 : decode cX5_tell 75 = .ok (.iinc 4 1, 3) := by decide +kernel
theorem dX5_tell_78 : decode cX5_tell 78 = .ok (.goto (-36), 3) := by decide +kernel
theorem dX5_tell_81 : decode cX5_tell 81 = .ok (.iconst (-1), 1) := by decide +kernel
theorem dX5_tell_82 : decode cX5_tell 82 = .ok (.ireturn, 1) := by decide +kernel
