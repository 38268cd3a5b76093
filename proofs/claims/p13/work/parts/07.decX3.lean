theorem dX3_init_0 : decode cX3_init 0 = .ok (.aload_n 0, 1) := by decide +kernel
theorem dX3_init_1 : decode cX3_init 1 = .ok (.invokespecial 3, 3) := by decide +kernel
theorem dX3_init_4 : decode cX3_init 4 = .ok (.aload_n 0, 1) := by decide +kernel
theorem dX3_init_5 : decode cX3_init 5 = .ok (.sipush 192, 3) := by decide +kernel
theorem dX3_init_8 : decode cX3_init 8 = .ok (.newarray .int, 2) := by decide +kernel
theorem dX3_init_10 : decode cX3_init 10 = .ok (.putfield 9, 3) := by decide +kernel
theorem dX3_init_13 : decode cX3_init 13 = .ok (.aload_n 0, 1) := by decide +kernel
theorem dX3_init_14 : decode cX3_init 14 = .ok (.sipush 480, 3) := by decide +kernel
theorem dX3_init_17 : decode cX3_init 17 = .ok (.newarray .int, 2) := by decide +kernel
theorem dX3_init_19 : decode cX3_init 19 = .ok (.putfield 15, 3) := by decide +kernel
theorem dX3_init_22 : decode cX3_init 22 = .ok (.aload_n 0, 1) := by decide +kernel
theorem dX3_init_23 : decode cX3_init 23 = .ok (.bipush 100, 2) := by decide +kernel
theorem dX3_init_25 : decode cX3_init 25 = .ok (.newarray .int, 2) := by decide +kernel
theorem dX3_init_27 : decode cX3_init 27 = .ok (.putfield 18, 3) := by decide +kernel
theorem dX3_init_30 : decode cX3_init 30 = .ok (.aload_n 0, 1) := by decide +kernel
theorem dX3_init_31 : decode cX3_init 31 = .ok (.aload_n 1, 1) := by decide +kernel
theorem dX3_init_32 : decode cX3_init 32 = .ok (.putfield 21, 3) := by decide +kernel
theorem dX3_init_35 : decode cX3_init 35 = .ok (.return_, 1) := by decide +kernel
theorem dX3_addTurn_0 : decode cX3_addTurn 0 = .ok (.aload_n 0, 1) := by decide +kernel
theorem dX3_addTurn_1 : decode cX3_addTurn 1 = .ok (.getfield 25, 3) := by decide +kernel
theorem dX3_addTurn_4 : decode cX3_addTurn 4 = .ok (.bipush 8, 2) := by decide +kernel
theorem dX3_addTurn_6 : decode cX3_addTurn 6 = .ok (.if_icmp .lt 5, 3) := by decide +kernel
theorem dX3_addTurn_9 : decode cX3_addTurn 9 = .ok (.iconst (-1), 1) := by decide +kernel
theorem dX3_addTurn_10 : decode cX3_addTurn 10 = .ok (.ireturn, 1) := by decide +kernel
theorem dX3_addTurn_11 : decode cX3_addTurn 11 = .ok (.iconst 0, 1) := by decide +kernel
theorem dX3_addTurn_12 : decode cX3_addTurn 12 = .ok (.istore_n 1, 1) := by decide +kernel
theorem dX3_addTurn_13 : decode cX3_addTurn 13 = .ok (.iload_n 1, 1) := by decide +kernel
theorem dX3_addTurn_14 : decode cX3_addTurn 14 = .ok (.bipush 24, 2) := by decide +kernel
theorem dX3_addTurn_16 : decode cX3_addTurn 16 = .ok (.if_icmp .ge 24, 3) := by decide +kernel
theorem dX3_addTurn_19 : decode cX3_addTurn 19 = .ok (.aload_n 0, 1) := by decide +kernel
theorem dX3_addTurn_20 : decode cX3_addTurn 20 = .ok (.getfield 9, 3) := by decide +kernel
theorem dX3_addTurn_23 : decode cX3_addTurn 23 = .ok (.aload_n 0, 1) := by decide +kernel
theorem dX3_addTurn_24 : decode cX3_addTurn 24 = .ok (.getfield 25, 3) := by decide +kernel
theorem dX3_addTurn_27 : decode cX3_addTurn 27 = .ok (.bipush 24, 2) := by decide +kernel
theorem dX3_addTurn_29 : decode cX3_addTurn 29 = .ok (.imul, 1) := by decide +kernel
theorem dX3_addTurn_30 : decode cX3_addTurn 30 = .ok (.iload_n 1, 1) := by decide +kernel
theorem dX3_addTurn_31 : decode cX3_addTurn 31 = .ok (.iadd, 1) := by decide +kernel
theorem dX3_addTurn_32 : decode cX3_addTurn 32 = .ok (.iload_n 1, 1) := by decide +kernel
theorem dX3_addTurn_33 : decode cX3_addTurn 33 = .ok (.iastore, 1) := by decide +kernel
theorem dX3_addTurn_34 : decode cX3_addTurn 34 = .ok (.iinc 1 1, 3) := by decide +kernel
theorem dX3_addTurn_37 : decode cX3_addTurn 37 = .ok (.goto (-24), 3) := by decide +kernel
theorem dX3_addTurn_40 : decode cX3_addTurn 40 = .ok (.aload_n 0, 1) := by decide +kernel
theorem dX3_addTurn_41 : decode cX3_addTurn 41 = .ok (.dup, 1) := by decide +kernel
theorem dX3_addTurn_42 : decode cX3_addTurn 42 = .ok (.getfield 25, 3) := by decide +kernel
theorem dX3_addTurn_45 : decode cX3_addTurn 45 = .ok (.iconst 1, 1) := by decide +kernel
theorem dX3_addTurn_46 : decode cX3_addTurn 46 = .ok (.iadd, 1) := by decide +kernel
theorem dX3_addTurn_47 : decode cX3_addTurn 47 = .ok (.putfield 25, 3) := by decide +kernel
theorem dX3_addTurn_50 : decode cX3_addTurn 50 = .ok (.aload_n 0, 1) := by decide +kernel
theorem dX3_addTurn_51 : decode cX3_addTurn 51 = .ok (.getfield 25, 3) := by decide +kernel
theorem dX3_addTurn_54 : decode cX3_addTurn 54 = .ok (.iconst 1, 1) := by decide +kernel
theorem dX3_addTurn_55 : decode cX3_addTurn 55 = .ok (.isub, 1) := by decide +kernel
theorem dX3_addTurn_56 : decode cX3_addTurn 56 = .ok (.ireturn, 1) := by decide +kernel
theorem dX3_swapTargets_0 : decode cX3_swapTargets 0 = .ok (.iload_n 1, 1) := by decide +kernel
theorem dX3_swapTargets_1 : decode cX3_swapTargets 1 = .ok (.bipush 24, 2) := by decide +kernel
theorem dX3_swapTargets_3 : decode cX3_swapTargets 3 = .ok (.imul, 1) := by decide +kernel
theorem dX3_swapTargets_4 : decode cX3_swapTargets 4 = .ok (.iload_n 2, 1) := by decide +kernel
theorem dX3_swapTargets_5 : decode cX3_swapTargets 5 = .ok (.iadd, 1) := by decide +kernel
theorem dX3_swapTargets_6 : decode cX3_swapTargets 6 = .ok (.istore 4, 2) := by decide +kernel
theorem dX3_swapTargets_8 : decode cX3_swapTargets 8 = .ok (.iload_n 1, 1) := by decide +kernel
theorem dX3_swapTargets_9 : decode cX3_swapTargets 9 = .ok (.bipush 24, 2) := by decide +kernel
theorem dX3_swapTargets_11 : decode cX3_swapTargets 11 = .ok (.imul, 1) := by decide +kernel
theorem dX3_swapTargets_12 : decode cX3_swapTargets 12 = .ok (.iload_n 3, 1) := by decide +kernel
theorem dX3_swapTargets_13 : decode cX3_swapTargets 13 = .ok (.iadd, 1) := by decide +kernel
theorem dX3_swapTargets_14 : decode cX3_swapTargets 14 = .ok (.istore 5, 2) := by decide +kernel
theorem dX3_swapTargets_16 : decode cX3_swapTargets 16 = .ok (.aload_n 0, 1) := by decide +kernel
theorem dX3_swapTargets_17 : decode cX3_swapTargets 17 = .ok (.getfield 9, 3) := by decide +kernel
theorem dX3_swapTargets_20 : decode cX3_swapTargets 20 = .ok (.iload 4, 2) := by decide +kernel
theorem dX3_swapTargets_22 : decode cX3_swapTargets 22 = .ok (.iaload, 1) := by decide +kernel
theorem dX3_swapTargets_23 : decode cX3_swapTargets 23 = .ok (.istore 6, 2) := by decide +kernel
theorem dX3_swapTargets_25 : decode cX3_swapTargets 25 = .ok (.aload_n 0, 1) := by decide +kernel
theorem dX3_swapTargets_26 : decode cX3_swapTargets 26 = .ok (.getfield 9, 3) := by decide +kernel
theorem dX3_swapTargets_29 : decode cX3_swapTargets 29 = .ok (.iload 4, 2) := by decide +kernel
theorem dX3_swapTargets_31 : decode cX3_swapTargets 31 = .ok (.aload_n 0, 1) := by decide +kernel
theorem dX3_swapTargets_32 : decode cX3_swapTargets 32 = .ok (.getfield 9, 3) := by decide +kernel
theorem dX3_swapTargets_35 : decode cX3_swapTargets 35 = .ok (.iload 5, 2) := by decide +kernel
theorem dX3_swapTargets_37 : decode cX3_swapTargets 37 = .ok (.iaload, 1) := by decide +kernel
theorem dX3_swapTargets_38 : decode cX3_swapTargets 38 = .ok (.iastore, 1) := by decide +kernel
theorem dX3_swapTargets_39 : decode cX3_swapTargets 39 = .ok (.aload_n 0, 1) := by decide +kernel
theorem dX3_swapTargets_40 : decode cX3_swapTargets 40 = .ok (.getfield 9, 3) := by decide +kernel
theorem dX3_swapTargets_43 : decode cX3_swapTargets 43 = .ok (.iload 5, 2) := by decide +kernel
theorem dX3_swapTargets_45 : decode cX3_swapTargets 45 = .ok (.iload 6, 2) := by decide +kernel
theorem dX3_swapTargets_47 : decode cX3_swapTargets 47 = .ok (.iastore, 1) := by decide +kernel
theorem dX3_swapTargets_48 : decode cX3_swapTargets 48 = .ok (.return_, 1) := by decide +kernel
set_option maxRecDepth 20000 in
theorem ggX3_keepTable_X3_keepsColumns : GoodIn wsX3_keepTable wsX3_keepsColumns := goodIn_r _ [6, 7, 8, 9, 10, 27, 28, 29, 30, 31, 32, 33, 34, 35, 36, 37, 38, 39] (by decide +kernel) (by decide +kernel)
set_option maxRecDepth 20000 in
theorem gX3_keepTable_X3_keepsColumns : GoodIn wsX3_keepTable (wsV RX3 29 RX3 yX3_keepsColumns wsX3_keepsColumns) := goodIn_app (goodIn_r _ [2, 3, 4, 5] (by decide +kernel) (by decide +kernel)) ggX3_keepTable_X3_keepsColumns
set_option maxRecDepth 20000 in
theorem ggX3_keepTable_X3_findRowImages : GoodIn wsX3_keepTable wsX3_findRowImages := goodIn_r _ [14, 7, 15, 16, 17, 18, 19, 5, 20, 21, 22, 23, 24, 8, 10, 25, 26, 27, 28, 29, 30, 31, 32, 33, 34, 35, 36, 37, 38, 39] (by decide +kernel) (by decide +kernel)
set_option maxRecDepth 20000 in
theorem gX3_keepTable_X3_findRowImages : GoodIn wsX3_keepTable (wsV RX3 33 RX3 yX3_findRowImages wsX3_findRowImages) := goodIn_app (goodIn_r _ [11, 12, 13, 5] (by decide +kernel) (by decide +kernel)) ggX3_keepTable_X3_findRowImages
theorem dX3_keepTable_0 : decode cX3_keepTable 0 = .ok (.iconst 0, 1) := by decide +kernel
theorem dX3_keepTable_1 : decode cX3_keepTable 1 = .ok (.istore_n 1, 1) := by decide +kernel
theorem dX3_keepTable_2 : decode cX3_keepTable 2 = .ok (.iload_n 1, 1) := by decide +kernel
theorem dX3_keepTable_3 : decode cX3_keepTable 3 = .ok (.aload_n 0, 1) := by decide +kernel
theorem dX3_keepTable_4 : decode cX3_keepTable 4 = .ok (.getfield 25, 3) := by decide +kernel
theorem dX3_keepTable_7 : decode cX3_keepTable 7 = .ok (.if_icmp .ge 27, 3) := by decide +kernel
theorem dX3_keepTable_10 : decode cX3_keepTable 10 = .ok (.aload_n 0, 1) := by decide +kernel
theorem dX3_keepTable_11 : decode cX3_keepTable 11 = .ok (.iload_n 1, 1) := by decide +kernel
theorem dX3_keepTable_12 : decode cX3_keepTable 12 = .ok (.invokevirtual 29, 3) := by decide +kernel
theorem dX3_keepTable_15 : decode cX3_keepTable 15 = .ok (.ifCond .eq 11, 3) := by decide +kernel
theorem dX3_keepTable_18 : decode cX3_keepTable 18 = .ok (.aload_n 0, 1) := by decide +kernel
theorem dX3_keepTable_19 : decode cX3_keepTable 19 = .ok (.iload_n 1, 1) := by decide +kernel
theorem dX3_keepTable_20 : decode cX3_keepTable 20 = .ok (.invokevirtual 33, 3) := by decide +kernel
theorem dX3_keepTable_23 : decode cX3_keepTable 23 = .ok (.ifCond .ne 5, 3) := by decide +kernel
theorem dX3_keepTable_26 : decode cX3_keepTable 26 = .ok (.iconst 0, 1) := by decide +kernel
theorem dX3_keepTable_27 : decode cX3_keepTable 27 = .ok (.ireturn, 1) := by decide +kernel
theorem dX3_keepTable_28 : decode cX3_keepTable 28 = .ok (.iinc 1 1, 3) := by decide +kernel
theorem dX3_keepTable_31 : decode cX3_keepTable 31 = .ok (.goto (-29), 3) := by decide +kernel
theorem dX3_keepTable_34 : decode cX3_keepTable 34 = .ok (.iconst 1, 1) := by decide +kernel
theorem dX3_keepTable_35 : decode cX3_keepTable 35 = .ok (.ireturn, 1) := by decide +kernel
theorem dX3_keepsColumns_0 : decode cX3_keepsColumns 0 = .ok (.iconst 0, 1) := by decide +kernel
theorem dX3_keepsColumns_1 : decode cX3_keepsColumns 1 = .ok (.istore_n 2, 1) := by decide +kernel
theorem dX3_keepsColumns_2 : decode cX3_keepsColumns 2 = .ok (.iload_n 2, 1) := by decide +kernel
theorem dX3_keepsColumns_3 : decode cX3_keepsColumns 3 = .ok (.aload_n 0, 1) := by decide +kernel
theorem dX3_keepsColumns_4 : decode cX3_keepsColumns 4 = .ok (.getfield 21, 3) := by decide +kernel
theorem dX3_keepsColumns_7 : decode cX3_keepsColumns 7 = .ok (.getfield 36, 3) := by decide +kernel
theorem dX3_keepsColumns_10 : decode cX3_keepsColumns 10 = .ok (.if_icmp .ge 42, 3) := by decide +kernel
theorem dX3_keepsColumns_13 : decode cX3_keepsColumns 13 = .ok (.aload_n 0, 1) := by decide +kernel
theorem dX3_keepsColumns_14 : decode cX3_keepsColumns 14 = .ok (.getfield 21, 3) := by decide +kernel
theorem dX3_keepsColumns_17 : decode cX3_keepsColumns 17 = .ok (.getfield 41, 3) := by decide +kernel
theorem dX3_keepsColumns_20 : decode cX3_keepsColumns 20 = .ok (.iload_n 2, 1) := by decide +kernel
theorem dX3_keepsColumns_21 : decode cX3_keepsColumns 21 = .ok (.iaload, 1) := by decide +kernel
theorem dX3_keepsColumns_22 : decode cX3_keepsColumns 22 = .ok (.aload_n 0, 1) := by decide +kernel
theorem dX3_keepsColumns_23 : decode cX3_keepsColumns 23 = .ok (.getfield 21, 3) := by decide +kernel
theorem dX3_keepsColumns_26 : decode cX3_keepsColumns 26 = .ok (.getfield 41, 3) := by decide +kernel
theorem dX3_keepsColumns_29 : decode cX3_keepsColumns 29 = .ok (.aload_n 0, 1) := by decide +kernel
theorem dX3_keepsColumns_30 : decode cX3_keepsColumns 30 = .ok (.getfield 9, 3) := by decide +kernel
theorem dX3_keepsColumns_33 : decode cX3_keepsColumns 33 = .ok (.iload_n 1, 1) := by decide +kernel
theorem dX3_keepsColumns_34 : decode cX3_keepsColumns 34 = .ok (.bipush 24, 2) := by decide +kernel
theorem dX3_keepsColumns_36 : decode cX3_keepsColumns 36 = .ok (.imul, 1) := by decide +kernel
theorem dX3_keepsColumns_37 : decode cX3_keepsColumns 37 = .ok (.iload_n 2, 1) := by decide +kernel
theorem dX3_keepsColumns_38 : decode cX3_keepsColumns 38 = .ok (.iadd, 1) := by decide +kernel
theorem dX3_keepsColumns_39 : decode cX3_keepsColumns 39 = .ok (.iaload, 1) := by decide +kernel
theorem dX3_keepsColumns_40 : decode cX3_keepsColumns 40 = .ok (.iaload, 1) := by decide +kernel
theorem dX3_keepsColumns_41 : decode cX3_keepsColumns 41 = .ok (.if_icmp .eq 5, 3) := by decide +kernel
theorem dX3_keepsColumns_44 : decode cX3_keepsColumns 44 = .ok (.iconst 0, 1) := by decide +kernel
theorem dX3_keepsColumns_45 : decode cX3_keepsColumns 45 = .ok (.ireturn, 1) := by decide +kernel
theorem dX3_keepsColumns_46 : decode cX3_keepsColumns 46 = .ok (.iinc 2 1, 3) := by decide +kernel
theorem dX3_keepsColumns_49 : decode cX3_keepsColumns 49 = .ok (.goto (-47), 3) := by decide +kernel
theorem dX3_keepsColumns_52 : decode cX3_keepsColumns 52 = .ok (.iconst 1, 1) := by decide +kernel
theorem dX3_keepsColumns_53 : decode cX3_keepsColumns 53 = .ok (.ireturn, 1) := by decide +kernel
set_option maxRecDepth 20000 in
theorem ggX3_findRowImages_X3_rowImage : GoodIn wsX3_findRowImages wsX3_rowImage := goodIn_r _ [8, 1, 2, 9, 10, 11, 7, 12, 13, 14, 15, 16, 17, 18, 19, 20, 21, 22, 23, 24, 25, 26, 27, 28, 29] (by decide +kernel) (by decide +kernel)
set_option maxRecDepth 20000 in
theorem gX3_findRowImages_X3_rowImage : GoodIn wsX3_findRowImages (wsV RX3 47 RX3 yX3_rowImage wsX3_rowImage) := goodIn_app (goodIn_r _ [4, 5, 6, 7] (by decide +kernel) (by decide +kernel)) ggX3_findRowImages_X3_rowImage
theorem dX3_findRowImages_0 : decode cX3_findRowImages 0 = .ok (.iconst 0, 1) := by decide +kernel
theorem dX3_findRowImages_1 : decode cX3_findRowImages 1 = .ok (.istore_n 2, 1) := by decide +kernel
theorem dX3_findRowImages_2 : decode cX3_findRowImages 2 = .ok (.iload_n 2, 1) := by decide +kernel
theorem dX3_findRowImages_3 : decode cX3_findRowImages 3 = .ok (.aload_n 0, 1) := by decide +kernel
theorem dX3_findRowImages_4 : decode cX3_findRowImages 4 = .ok (.getfield 21, 3) := by decide +kernel
theorem dX3_findRowImages_7 : decode cX3_findRowImages 7 = .ok (.getfield 44, 3) := by decide +kernel
theorem dX3_findRowImages_10 : decode cX3_findRowImages 10 = .ok (.if_icmp .ge 34, 3) := by decide +kernel
theorem dX3_findRowImages_13 : decode cX3_findRowImages 13 = .ok (.aload_n 0, 1) := by decide +kernel
theorem dX3_findRowImages_14 : decode cX3_findRowImages 14 = .ok (.iload_n 1, 1) := by decide +kernel
theorem dX3_findRowImages_15 : decode cX3_findRowImages 15 = .ok (.iload_n 2, 1) := by decide +kernel
theorem dX3_findRowImages_16 : decode cX3_findRowImages 16 = .ok (.invokevirtual 47, 3) := by decide +kernel
theorem dX3_findRowImages_19 : decode cX3_findRowImages 19 = .ok (.istore_n 3, 1) := by decide +kernel
theorem dX3_findRowImages_20 : decode cX3_findRowImages 20 = .ok (.iload_n 3, 1) := by decide +kernel
theorem dX3_findRowImages_21 : decode cX3_findRowImages 21 = .ok (.ifCond .ge 5, 3) := by decide +kernel
theorem dX3_findRowImages_24 : decode cX3_findRowImages 24 = .ok (.iconst 0, 1) := by decide +kernel
theorem dX3_findRowImages_25 : decode cX3_findRowImages 25 = .ok (.ireturn, 1) := by decide +kernel
theorem dX3_findRowImages_26 : decode cX3_findRowImages 26 = .ok (.aload_n 0, 1) := by decide +kernel
theorem dX3_findRowImages_27 : decode cX3_findRowImages 27 = .ok (.getfield 15, 3) := by decide +kernel
theorem dX3_findRowImages_30 : decode cX3_findRowImages 30 = .ok (.iload_n 1, 1) := by decide +kernel
theorem dX3_findRowImages_31 : decode cX3_findRowImages 31 = .ok (.bipush 60, 2) := by decide +kernel
theorem dX3_findRowImages_33 : decode cX3_findRowImages 33 = .ok (.imul, 1) := by decide +kernel
theorem dX3_findRowImages_34 : decode cX3_findRowImages 34 = .ok (.iload_n 2, 1) := by decide +kernel
theorem dX3_findRowImages_35 : decode cX3_findRowImages 35 = .ok (.iadd, 1) := by decide +kernel
theorem dX3_findRowImages_36 : decode cX3_findRowImages 36 = .ok (.iload_n 3, 1) := by decide +kernel
theorem dX3_findRowImages_37 : decode cX3_findRowImages 37 = .ok (.iastore, 1) := by decide +kernel
theorem dX3_findRowImages_38 : decode cX3_findRowImages 38 = .ok (.iinc 2 1, 3) := by decide +kernel
theorem dX3_findRowImages_41 : decode cX3_findRowImages 41 = .ok (.goto (-39), 3) := by decide +kernel
theorem dX3_findRowImages_44 : decode cX3_findRowImages 44 = .ok (.iconst 1, 1) := by decide +kernel
theorem dX3_findRowImages_45 : decode cX3_findRowImages 45 = .ok (.ireturn, 1) := by decide +kernel
set_option maxRecDepth 20000 in
theorem ggX3_rowImage_X3_goesTo : GoodIn wsX3_rowImage wsX3_goesTo := goodIn_r _ [7, 1, 8, 9, 10, 11, 12, 13, 14, 15, 16, 17, 18, 19, 20, 21, 22, 23, 24] (by decide +kernel) (by decide +kernel)
set_option maxRecDepth 20000 in
theorem gX3_rowImage_X3_goesTo : GoodIn wsX3_rowImage (wsV RX3 51 RX3 yX3_goesTo wsX3_goesTo) := goodIn_app (goodIn_r _ [3, 4, 5, 6] (by decide +kernel) (by decide +kernel)) ggX3_rowImage_X3_goesTo
theorem dX3_rowImage_0 : decode cX3_rowImage 0 = .ok (.iconst 0, 1) := by decide +kernel
theorem dX3_rowImage_1 : decode cX3_rowImage 1 = .ok (.istore_n 3, 1) := by decide +kernel
theorem dX3_rowImage_2 : decode cX3_rowImage 2 = .ok (.iload_n 3, 1) := by decide +kernel
theorem dX3_rowImage_3 : decode cX3_rowImage 3 = .ok (.aload_n 0, 1) := by decide +kernel
theorem dX3_rowImage_4 : decode cX3_rowImage 4 = .ok (.getfield 21, 3) := by decide +kernel
theorem dX3_rowImage_7 : decode cX3_rowImage 7 = .ok (.getfield 44, 3) := by decide +kernel
theorem dX3_rowImage_10 : decode cX3_rowImage 10 = .ok (.if_icmp .ge 21, 3) := by decide +kernel
theorem dX3_rowImage_13 : decode cX3_rowImage 13 = .ok (.aload_n 0, 1) := by decide +kernel
theorem dX3_rowImage_14 : decode cX3_rowImage 14 = .ok (.iload_n 1, 1) := by decide +kernel
theorem dX3_rowImage_15 : decode cX3_rowImage 15 = .ok (.iload_n 2, 1) := by decide +kernel
theorem dX3_rowImage_16 : decode cX3_rowImage 16 = .ok (.iload_n 3, 1) := by decide +kernel
theorem dX3_rowImage_17 : decode cX3_rowImage 17 = .ok (.invokevirtual 51, 3) := by decide +kernel
theorem dX3_rowImage_20 : decode cX3_rowImage 20 = .ok (.ifCond .eq 5, 3) := by decide +kernel
theorem dX3_rowImage_23 : decode cX3_rowImage 23 = .ok (.iload_n 3, 1) := by decide +kernel
theorem dX3_rowImage_24 : decode cX3_rowImage 24 = .ok (.ireturn, 1) := by decide +kernel
theorem dX3_rowImage_25 : decode cX3_rowImage 25 = .ok (.iinc 3 1, 3) := by decide +kernel
theorem dX3_rowImage_28 : decode cX3_rowImage 28 = .ok (.goto (-26), 3) := by decide +kernel
theorem dX3_rowImage_31 : decode cX3_rowImage 31 = .ok (.iconst (-1), 1) := by decide +kernel
theorem dX3_rowImage_32 : decode cX3_rowImage 32 = .ok (.ireturn, 1) := by decide +kernel
theorem dX3_goesTo_0 : decode cX3_goesTo 0 = .ok (.iconst 0, 1) := by decide +kernel
theorem dX3_goesTo_1 : decode cX3_goesTo 1 = .ok (.istore 4, 2) := by decide +kernel
theorem dX3_goesTo_3 : decode cX3_goesTo 3 = .ok (.iload 4, 2) := by decide +kernel
theorem dX3_goesTo_5 : decode cX3_goesTo 5 = .ok (.aload_n 0, 1) := by decide +kernel
theorem dX3_goesTo_6 : decode cX3_goesTo 6 = .ok (.getfield 21, 3) := by decide +kernel
theorem dX3_goesTo_9 : decode cX3_goesTo 9 = .ok (.getfield 36, 3) := by decide +kernel
theorem dX3_goesTo_12 : decode cX3_goesTo 12 = .ok (.if_icmp .ge 117, 3) := by decide +kernel
theorem dX3_goesTo_15 : decode cX3_goesTo 15 = .ok (.aload_n 0, 1) := by decide +kernel
theorem dX3_goesTo_16 : decode cX3_goesTo 16 = .ok (.getfield 9, 3) := by decide +kernel
theorem dX3_goesTo_19 : decode cX3_goesTo 19 = .ok (.iload_n 1, 1) := by decide +kernel
theorem dX3_goesTo_20 : decode cX3_goesTo 20 = .ok (.bipush 24, 2) := by decide +kernel
theorem dX3_goesTo_22 : decode cX3_goesTo 22 = .ok (.imul, 1) := by decide +kernel
theorem dX3_goesTo_23 : decode cX3_goesTo 23 = .ok (.iload 4, 2) := by decide +kernel
theorem dX3_goesTo_25 : decode cX3_goesTo 25 = .ok (.iadd, 1) := by decide +kernel
theorem dX3_goesTo_26 : decode cX3_goesTo 26 = .ok (.iaload, 1) := by decide +kernel
theorem dX3_goesTo_27 : decode cX3_goesTo 27 = .ok (.istore 5, 2) := by decide +kernel
theorem dX3_goesTo_29 : decode cX3_goesTo 29 = .ok (.aload_n 0, 1) := by decide +kernel
theorem dX3_goesTo_30 : decode cX3_goesTo 30 = .ok (.getfield 21, 3) := by decide +kernel
theorem dX3_goesTo_33 : decode cX3_goesTo 33 = .ok (.getfield 55, 3) := by decide +kernel
theorem dX3_goesTo_36 : decode cX3_goesTo 36 = .ok (.iload_n 2, 1) := by decide +kernel
theorem dX3_goesTo_37 : decode cX3_goesTo 37 = .ok (.iaload, 1) := by decide +kernel
theorem dX3_goesTo_38 : decode cX3_goesTo 38 = .ok (.iload 4, 2) := by decide +kernel
theorem dX3_goesTo_40 : decode cX3_goesTo 40 = .ok (.ishr, 1) := by decide +kernel
theorem dX3_goesTo_41 : decode cX3_goesTo 41 = .ok (.iconst 1, 1) := by decide +kernel
theorem dX3_goesTo_42 : decode cX3_goesTo 42 = .ok (.iand, 1) := by decide +kernel
theorem dX3_goesTo_43 : decode cX3_goesTo 43 = .ok (.ifCond .eq 7, 3) := by decide +kernel
theorem dX3_goesTo_46 : decode cX3_goesTo 46 = .ok (.iconst 1, 1) := by decide +kernel
theorem dX3_goesTo_47 : decode cX3_goesTo 47 = .ok (.goto 4, 3) := by decide +kernel
theorem dX3_goesTo_50 : decode cX3_goesTo 50 = .ok (.iconst 0, 1) := by decide +kernel
theorem dX3_goesTo_51 : decode cX3_goesTo 51 = .ok (.istore 6, 2) := by decide +kernel
theorem dX3_goesTo_53 : decode cX3_goesTo 53 = .ok (.aload_n 0, 1) := by decide +kernel
theorem dX3_goesTo_54 : decode cX3_goesTo 54 = .ok (.getfield 21, 3) := by decide +kernel
theorem dX3_goesTo_57 : decode cX3_goesTo 57 = .ok (.getfield 55, 3) := by decide +kernel
theorem dX3_goesTo_60 : decode cX3_goesTo 60 = .ok (.iload_n 3, 1) := by decide +kernel
theorem dX3_goesTo_61 : decode cX3_goesTo 61 = .ok (.iaload, 1) := by decide +kernel
theorem dX3_goesTo_62 : decode cX3_goesTo 62 = .ok (.iload 5, 2) := by decide +kernel
theorem dX3_goesTo_64 : decode cX3_goesTo 64 = .ok (.ishr, 1) := by decide +kernel
theorem dX3_goesTo_65 : decode cX3_goesTo 65 = .ok (.iconst 1, 1) := by decide +kernel
theorem dX3_goesTo_66 : decode cX3_goesTo 66 = .ok (.iand, 1) := by decide +kernel
theorem dX3_goesTo_67 : decode cX3_goesTo 67 = .ok (.ifCond .eq 7, 3) := by decide +kernel
theorem dX3_goesTo_70 : decode cX3_goesTo 70 = .ok (.iconst 1, 1) := by decide +kernel
theorem dX3_goesTo_71 : decode cX3_goesTo 71 = .ok (.goto 4, 3) := by decide +kernel
theorem dX3_goesTo_74 : decode cX3_goesTo 74 = .ok (.iconst 0, 1) := by decide +kernel
theorem dX3_goesTo_75 : decode cX3_goesTo 75 = .ok (.istore 7, 2) := by decide +kernel
theorem dX3_goesTo_77 : decode cX3_goesTo 77 = .ok (.aload_n 0, 1) := by decide +kernel
theorem dX3_goesTo_78 : decode cX3_goesTo 78 = .ok (.getfield 21, 3) := by decide +kernel
theorem dX3_goesTo_81 : decode cX3_goesTo 81 = .ok (.getfield 58, 3) := by decide +kernel
theorem dX3_goesTo_84 : decode cX3_goesTo 84 = .ok (.iload_n 2, 1) := by decide +kernel
theorem dX3_goesTo_85 : decode cX3_goesTo 85 = .ok (.bipush 24, 2) := by decide +kernel
theorem dX3_goesTo_87 : decode cX3_goesTo 87 = .ok (.imul, 1) := by decide +kernel
theorem dX3_goesTo_88 : decode cX3_goesTo 88 = .ok (.iload 4, 2) := by decide +kernel
theorem dX3_goesTo_90 : decode cX3_goesTo 90 = .ok (.iadd, 1) := by decide +kernel
theorem dX3_goesTo_91 : decode cX3_goesTo 91 = .ok (.baload, 1) := by decide +kernel
theorem dX3_goesTo_92 : decode cX3_goesTo 92 = .ok (.istore 8, 2) := by decide +kernel
theorem dX3_goesTo_94 : decode cX3_goesTo 94 = .ok (.iload 6, 2) := by decide +kernel
theorem dX3_goesTo_96 : decode cX3_goesTo 96 = .ok (.iload 7, 2) := by decide +kernel
theorem dX3_goesTo_98 : decode cX3_goesTo 98 = .ok (.if_icmp .ne 23, 3) := by decide +kernel
theorem dX3_goesTo_101 : decode cX3_goesTo 101 = .ok (.iload 8, 2) := by decide +kernel
theorem dX3_goesTo_103 : decode cX3_goesTo 103 = .ok (.aload_n 0, 1) := by decide +kernel
theorem dX3_goesTo_104 : decode cX3_goesTo 104 = .ok (.getfield 21, 3) := by decide +kernel
theorem dX3_goesTo_107 : decode cX3_goesTo 107 = .ok (.getfield 58, 3) := by decide +kernel
theorem dX3_goesTo_110 : decode cX3_goesTo 110 = .ok (.iload_n 3, 1) := by decide +kernel
theorem dX3_goesTo_111 : decode cX3_goesTo 111 = .ok (.bipush 24, 2) := by decide +kernel
theorem dX3_goesTo_113 : decode cX3_goesTo 113 = .ok (.imul, 1) := by decide +kernel
theorem dX3_goesTo_114 : decode cX3_goesTo 114 = .ok (.iload 5, 2) := by decide +kernel
theorem dX3_goesTo_116 : decode cX3_goesTo 116 = .ok (.iadd, 1) := by decide +kernel
theorem dX3_goesTo_117 : decode cX3_goesTo 117 = .ok (.baload, 1) := by decide +kernel
theorem dX3_goesTo_118 : decode cX3_goesTo 118 = .ok (.if_icmp .eq 5, 3) := by decide +kernel
theorem dX3_goesTo_121 : decode cX3_goesTo 121 = .ok (.iconst 0, 1) := by decide +kernel
theorem dX3_goesTo_122 : decode cX3_goesTo 122 = .ok (.ireturn, 1) := by decide +kernel
theorem dX3_goesTo_123 : decode cX3_goesTo 123 = .ok (.iinc 4 1, 3) := by decide +kernel
theorem dX3_goesTo_126 : decode cX3_goesTo 126 = .ok (.goto (-123), 3) := by decide +kernel
theorem dX3_goesTo_129 : decode cX3_goesTo 129 = .ok (.iconst 1, 1) := by decide +kernel
theorem dX3_goesTo_130 : decode cX3_goesTo 130 = .ok (.ireturn, 1) := by decide +kernel
set_option maxRecDepth 20000 in
theorem ggX3_countClasses_X3_wayImage : GoodIn wsX3_countClasses wsX3_wayImage := goodIn_r _ [7, 8, 9, 10, 18, 19, 20, 21, 22, 23, 24, 25, 26, 27, 28, 29, 30] (by decide +kernel) (by decide +kernel)
set_option maxRecDepth 20000 in
theorem gX3_countClasses_X3_wayImage : GoodIn wsX3_countClasses (wsV RX3 62 RX3 yX3_wayImage wsX3_wayImage) := goodIn_app (goodIn_r _ [3, 4, 5, 6] (by decide +kernel) (by decide +kernel)) ggX3_countClasses_X3_wayImage
set_option maxRecDepth 20000 in
theorem ggX3_countClasses_X3_indexOf : GoodIn wsX3_countClasses wsX3_indexOf := goodIn_r _ [13] (by decide +kernel) (by decide +kernel)
set_option maxRecDepth 20000 in
theorem gX3_countClasses_X3_indexOf : GoodIn wsX3_countClasses (va_wsS RX3 66 yX3_indexOf wsX3_indexOf) := goodIn_app (goodIn_r _ [11, 12, 6] (by decide +kernel) (by decide +kernel)) ggX3_countClasses_X3_indexOf
set_option maxRecDepth 20000 in
theorem ggX3_countClasses_X3_joinClasses : GoodIn wsX3_countClasses wsX3_joinClasses := goodIn_r _ [17, 1, 18, 19, 20, 21, 22] (by decide +kernel) (by decide +kernel)
set_option maxRecDepth 20000 in
theorem gX3_countClasses_X3_joinClasses : GoodIn wsX3_countClasses (wsV RX3 70 RX3 yX3_joinClasses wsX3_joinClasses) := goodIn_app (goodIn_r _ [14, 15, 16, 6] (by decide +kernel) (by decide +kernel)) ggX3_countClasses_X3_joinClasses
theorem dX3_countClasses_0 : decode cX3_countClasses 0 = .ok (.iload_n 2, 1) := by decide +kernel
theorem dX3_countClasses_1 : decode cX3_countClasses 1 = .ok (.istore_n 3, 1) := by decide +kernel
theorem dX3_countClasses_2 : decode cX3_countClasses 2 = .ok (.iconst 0, 1) := by decide +kernel
theorem dX3_countClasses_3 : decode cX3_countClasses 3 = .ok (.istore 4, 2) := by decide +kernel
theorem dX3_countClasses_5 : decode cX3_countClasses 5 = .ok (.iload 4, 2) := by decide +kernel
theorem dX3_countClasses_7 : decode cX3_countClasses 7 = .ok (.iload_n 2, 1) := by decide +kernel
theorem dX3_countClasses_8 : decode cX3_countClasses 8 = .ok (.if_icmp .ge 18, 3) := by decide +kernel
theorem dX3_countClasses_11 : decode cX3_countClasses 11 = .ok (.aload_n 0, 1) := by decide +kernel
theorem dX3_countClasses_12 : decode cX3_countClasses 12 = .ok (.getfield 18, 3) := by decide +kernel
theorem dX3_countClasses_15 : decode cX3_countClasses 15 = .ok (.iload 4, 2) := by decide +kernel
theorem dX3_countClasses_17 : decode cX3_countClasses 17 = .ok (.iload 4, 2) := by decide +kernel
theorem dX3_countClasses_19 : decode cX3_countClasses 19 = .ok (.iastore, 1) := by decide +kernel
theorem dX3_countClasses_20 : decode cX3_countClasses 20 = .ok (.iinc 4 1, 3) := by decide +kernel
theorem dX3_countClasses_23 : decode cX3_countClasses 23 = .ok (.goto (-18), 3) := by decide +kernel
theorem dX3_countClasses_26 : decode cX3_countClasses 26 = .ok (.iconst 0, 1) := by decide +kernel
theorem dX3_countClasses_27 : decode cX3_countClasses 27 = .ok (.istore 4, 2) := by decide +kernel
theorem dX3_countClasses_29 : decode cX3_countClasses 29 = .ok (.iload 4, 2) := by decide +kernel
theorem dX3_countClasses_31 : decode cX3_countClasses 31 = .ok (.aload_n 0, 1) := by decide +kernel
theorem dX3_countClasses_32 : decode cX3_countClasses 32 = .ok (.getfield 25, 3) := by decide +kernel
theorem dX3_countClasses_35 : decode cX3_countClasses 35 = .ok (.if_icmp .ge 85, 3) := by decide +kernel
theorem dX3_countClasses_38 : decode cX3_countClasses 38 = .ok (.iconst 0, 1) := by decide +kernel
theorem dX3_countClasses_39 : decode cX3_countClasses 39 = .ok (.istore 5, 2) := by decide +kernel
theorem dX3_countClasses_41 : decode cX3_countClasses 41 = .ok (.iload 5, 2) := by decide +kernel
theorem dX3_countClasses_43 : decode cX3_countClasses 43 = .ok (.iload_n 2, 1) := by decide +kernel
theorem dX3_countClasses_44 : decode cX3_countClasses 44 = .ok (.if_icmp .ge 70, 3) := by decide +kernel
theorem dX3_countClasses_47 : decode cX3_countClasses 47 = .ok (.aload_n 1, 1) := by decide +kernel
theorem dX3_countClasses_48 : decode cX3_countClasses 48 = .ok (.iload_n 2, 1) := by decide +kernel
theorem dX3_countClasses_49 : decode cX3_countClasses 49 = .ok (.aload_n 0, 1) := by decide +kernel
theorem dX3_countClasses_50 : decode cX3_countClasses 50 = .ok (.iload 4, 2) := by decide +kernel
theorem dX3_countClasses_52 : decode cX3_countClasses 52 = .ok (.aload_n 1, 1) := by decide +kernel
theorem dX3_countClasses_53 : decode cX3_countClasses 53 = .ok (.iload 5, 2) := by decide +kernel
theorem dX3_countClasses_55 : decode cX3_countClasses 55 = .ok (.laload, 1) := by decide +kernel
theorem dX3_countClasses_56 : decode cX3_countClasses 56 = .ok (.invokevirtual 62, 3) := by decide +kernel
theorem dX3_countClasses_59 : decode cX3_countClasses 59 = .ok (.invokestatic 66, 3) := by decide +kernel
theorem dX3_countClasses_62 : decode cX3_countClasses 62 = .ok (.istore 6, 2) := by decide +kernel
theorem dX3_countClasses_64 : decode cX3_countClasses 64 = .ok (.iload 6, 2) := by decide +kernel
theorem dX3_countClasses_66 : decode cX3_countClasses 66 = .ok (.ifCond .lt 42, 3) := by decide +kernel
theorem dX3_countClasses_69 : decode cX3_countClasses 69 = .ok (.aload_n 0, 1) := by decide +kernel
theorem dX3_countClasses_70 : decode cX3_countClasses 70 = .ok (.getfield 18, 3) := by decide +kernel
theorem dX3_countClasses_73 : decode cX3_countClasses 73 = .ok (.iload 6, 2) := by decide +kernel
theorem dX3_countClasses_75 : decode cX3_countClasses 75 = .ok (.iaload, 1) := by decide +kernel
theorem dX3_countClasses_76 : decode cX3_countClasses 76 = .ok (.aload_n 0, 1) := by decide +kernel
theorem dX3_countClasses_77 : decode cX3_countClasses 77 = .ok (.getfield 18, 3) := by decide +kernel
theorem dX3_countClasses_80 : decode cX3_countClasses 80 = .ok (.iload 5, 2) := by decide +kernel
theorem dX3_countClasses_82 : decode cX3_countClasses 82 = .ok (.iaload, 1) := by decide +kernel
theorem dX3_countClasses_83 : decode cX3_countClasses 83 = .ok (.if_icmp .eq 25, 3) := by decide +kernel
theorem dX3_countClasses_86 : decode cX3_countClasses 86 = .ok (.aload_n 0, 1) := by decide +kernel
theorem dX3_countClasses_87 : decode cX3_countClasses 87 = .ok (.aload_n 0, 1) := by decide +kernel
theorem dX3_countClasses_88 : decode cX3_countClasses 88 = .ok (.getfield 18, 3) := by decide +kernel
theorem dX3_countClasses_91 : decode cX3_countClasses 91 = .ok (.iload 6, 2) := by decide +kernel
theorem dX3_countClasses_93 : decode cX3_countClasses 93 = .ok (.iaload, 1) := by decide +kernel
theorem dX3_countClasses_94 : decode cX3_countClasses 94 = .ok (.aload_n 0, 1) := by decide +kernel
theorem dX3_countClasses_95 : decode cX3_countClasses 95 = .ok (.getfield 18, 3) := by decide +kernel
theorem dX3_countClasses_98 : decode cX3_countClasses 98 = .ok (.iload 5, 2) := by decide +kernel
theorem dX3_countClasses_100 : decode cX3_countClasses 100 = .ok (.iaload, 1) := by decide +kernel
theorem dX3_countClasses_101 : decode cX3_countClasses 101 = .ok (.iload_n 2, 1) := by decide +kernel
theorem dX3_countClasses_102 : decode cX3_countClasses 102 = .ok (.invokevirtual 70, 3) := by decide +kernel
theorem dX3_countClasses_105 : decode cX3_countClasses 105 = .ok (.iinc 3 (-1), 3) := by decide +kernel
theorem dX3_countClasses_108 : decode cX3_countClasses 108 = .ok (.iinc 5 1, 3) := by decide +kernel
theorem dX3_countClasses_111 : decode cX3_countClasses 111 = .ok (.goto (-70), 3) := by decide +kernel
theorem dX3_countClasses_114 : decode cX3_countClasses 114 = .ok (.iinc 4 1, 3) := by decide +kernel
theorem dX3_countClasses_117 : decode cX3_countClasses 117 = .ok (.goto (-88), 3) := by decide +kernel
theorem dX3_countClasses_120 : decode cX3_countClasses 120 = .ok (.iload_n 3, 1) := by decide +kernel
theorem dX3_countClasses_121 : decode cX3_countClasses 121 = .ok (.ireturn, 1) := by decide +kernel
theorem dX3_wayImage_0 : decode cX3_wayImage 0 = .ok (.lconst 0, 1) := by decide +kernel
theorem dX3_wayImage_1 : decode cX3_wayImage 1 = .ok (.lstore 4, 2) := by decide +kernel
theorem dX3_wayImage_3 : decode cX3_wayImage 3 = .ok (.iconst 0, 1) := by decide +kernel
theorem dX3_wayImage_4 : decode cX3_wayImage 4 = .ok (.istore 6, 2) := by decide +kernel
theorem dX3_wayImage_6 : decode cX3_wayImage 6 = .ok (.iload 6, 2) := by decide +kernel
theorem dX3_wayImage_8 : decode cX3_wayImage 8 = .ok (.aload_n 0, 1) := by decide +kernel
theorem dX3_wayImage_9 : decode cX3_wayImage 9 = .ok (.getfield 21, 3) := by decide +kernel
theorem dX3_wayImage_12 : decode cX3_wayImage 12 = .ok (.getfield 44, 3) := by decide +kernel
theorem dX3_wayImage_15 : decode cX3_wayImage 15 = .ok (.if_icmp .ge 39, 3) := by decide +kernel
theorem dX3_wayImage_18 : decode cX3_wayImage 18 = .ok (.lload_n 2, 1) := by decide +kernel
theorem dX3_wayImage_19 : decode cX3_wayImage 19 = .ok (.iload 6, 2) := by decide +kernel
theorem dX3_wayImage_21 : decode cX3_wayImage 21 = .ok (.lshr, 1) := by decide +kernel
theorem dX3_wayImage_22 : decode cX3_wayImage 22 = .ok (.lconst 1, 1) := by decide +kernel
theorem dX3_wayImage_23 : decode cX3_wayImage 23 = .ok (.land, 1) := by decide +kernel
theorem dX3_wayImage_24 : decode cX3_wayImage 24 = .ok (.lconst 0, 1) := by decide +kernel
theorem dX3_wayImage_25 : decode cX3_wayImage 25 = .ok (.lcmp, 1) := by decide +kernel
theorem dX3_wayImage_26 : decode cX3_wayImage 26 = .ok (.ifCond .eq 22, 3) := by decide +kernel
theorem dX3_wayImage_29 : decode cX3_wayImage 29 = .ok (.lload 4, 2) := by decide +kernel
theorem dX3_wayImage_31 : decode cX3_wayImage 31 = .ok (.lconst 1, 1) := by decide +kernel
theorem dX3_wayImage_32 : decode cX3_wayImage 32 = .ok (.aload_n 0, 1) := by decide +kernel
theorem dX3_wayImage_33 : decode cX3_wayImage 33 = .ok (.getfield 15, 3) := by decide +kernel
theorem dX3_wayImage_36 : decode cX3_wayImage 36 = .ok (.iload_n 1, 1) := by decide +kernel
theorem dX3_wayImage_37 : decode cX3_wayImage 37 = .ok (.bipush 60, 2) := by decide +kernel
theorem dX3_wayImage_39 : decode cX3_wayImage 39 = .ok (.imul, 1) := by decide +kernel
theorem dX3_wayImage_40 : decode cX3_wayImage 40 = .ok (.iload 6, 2) := by decide +kernel
theorem dX3_wayImage_42 : decode cX3_wayImage 42 = .ok (.iadd, 1) := by decide +kernel
theorem dX3_wayImage_43 : decode cX3_wayImage 43 = .ok (.iaload, 1) := by decide +kernel
theorem dX3_wayImage_44 : decode cX3_wayImage 44 = .ok (.lshl, 1) := by decide +kernel
theorem dX3_wayImage_45 : decode cX3_wayImage 45 = .ok (.lor, 1) := by decide +kernel
theorem dX3_wayImage_46 : decode cX3_wayImage 46 = .ok (.lstore 4, 2) := by decide +kernel
theorem dX3_wayImage_48 : decode cX3_wayImage 48 = .ok (.iinc 6 1, 3) := by decide +kernel
theorem dX3_wayImage_51 : decode cX3_wayImage 51 = .ok (.goto (-45), 3) := by decide +kernel
theorem dX3_wayImage_54 : decode cX3_wayImage 54 = .ok (.lload 4, 2) := by decide +kernel
theorem dX3_wayImage_56 : decode cX3_wayImage 56 = .ok (.lreturn, 1) := by decide +kernel
theorem dX3_indexOf_0 : decode cX3_indexOf 0 = .ok (.iconst 0, 1) := by decide +kernel
theorem dX3_indexOf_1 : decode cX3_indexOf 1 = .ok (.istore 4, 2) := by decide +kernel
theorem dX3_indexOf_3 : decode cX3_indexOf 3 = .ok (.iload 4, 2) := by decide +kernel
theorem dX3_indexOf_5 : decode cX3_indexOf 5 = .ok (.iload_n 1, 1) := by decide +kernel
theorem dX3_indexOf_6 : decode cX3_indexOf 6 = .ok (.if_icmp .ge 21, 3) := by decide +kernel
theorem dX3_indexOf_9 : decode cX3_indexOf 9 = .ok (.aload_n 0, 1) := by decide +kernel
theorem dX3_indexOf_10 : decode cX3_indexOf 10 = .ok (.iload 4, 2) := by decide +kernel
theorem dX3_indexOf_12 : decode cX3_indexOf 12 = .ok (.laload, 1) := by decide +kernel
theorem dX3_indexOf_13 : decode cX3_indexOf 13 = .ok (.lload_n 2, 1) := by decide +kernel
theorem dX3_indexOf_14 : decode cX3_indexOf 14 = .ok (.lcmp, 1) := by decide +kernel
theorem dX3_indexOf_15 : decode cX3_indexOf 15 = .ok (.ifCond .ne 6, 3) := by decide +kernel
theorem dX3_indexOf_18 : decode cX3_indexOf 18 = .ok (.iload 4, 2) := by decide +kernel
theorem dX3_indexOf_20 : decode cX3_indexOf 20 = .ok (.ireturn, 1) := by decide +kernel
theorem dX3_indexOf_21 : decode cX3_indexOf 21 = .ok (.iinc 4 1, 3) := by decide +kernel
theorem dX3_indexOf_24 : decode cX3_indexOf 24 = .ok (.goto (-21), 3) := by decide +kernel
theorem dX3_indexOf_27 : decode cX3_indexOf 27 = .ok (.iconst (-1), 1) := by decide +kernel
theorem dX3_indexOf_28 : decode cX3_indexOf 28 = .ok (.ireturn, 1) := by decide +kernel
theorem dX3_joinClasses_0 : decode cX3_joinClasses 0 = .ok (.iconst 0, 1) := by decide +kernel
theorem dX3_joinClasses_1 : decode cX3_joinClasses 1 = .ok (.istore 4, 2) := by decide +kernel
theorem dX3_joinClasses_3 : decode cX3_joinClasses 3 = .ok (.iload 4, 2) := by decide +kernel
theorem dX3_joinClasses_5 : decode cX3_joinClasses 5 = .ok (.iload_n 3, 1) := by decide +kernel
theorem dX3_joinClasses_6 : decode cX3_joinClasses 6 = .ok (.if_icmp .ge 28, 3) := by decide +kernel
theorem dX3_joinClasses_9 : decode cX3_joinClasses 9 = .ok (.aload_n 0, 1) := by decide +kernel
theorem dX3_joinClasses_10 : decode cX3_joinClasses 10 = .ok (.getfield 18, 3) := by decide +kernel
theorem dX3_joinClasses_13 : decode cX3_joinClasses 13 = .ok (.iload 4, 2) := by decide +kernel
theorem dX3_joinClasses_15 : decode cX3_joinClasses 15 = .ok (.iaload, 1) := by decide +kernel
theorem dX3_joinClasses_16 : decode cX3_joinClasses 16 = .ok (.iload_n 1, 1) := by decide +kernel
theorem dX3_joinClasses_17 : decode cX3_joinClasses 17 = .ok (.if_icmp .ne 11, 3) := by decide +kernel
theorem dX3_joinClasses_20 : decode cX3_joinClasses 20 = .ok (.aload_n 0, 1) := by decide +kernel
theorem dX3_joinClasses_21 : decode cX3_joinClasses 21 = .ok (.getfield 18, 3) := by decide +kernel
theorem dX3_joinClasses_24 : decode cX3_joinClasses 24 = .ok (.iload 4, 2) := by decide +kernel
theorem dX3_joinClasses_26 : decode cX3_joinClasses 26 = .ok (.iload_n 2, 1) := by decide +kernel
theorem dX3_joinClasses_27 : decode cX3_joinClasses 27 = .ok (.iastore, 1) := by decide +kernel
theorem dX3_joinClasses_28 : decode cX3_joinClasses 28 = .ok (.iinc 4 1, 3) := by decide +kernel
theorem dX3_joinClasses_31 : decode cX3_joinClasses 31 = .ok (.goto (-28), 3) := by decide +kernel
theorem dX3_joinClasses_34 : decode cX3_joinClasses 34 = .ok (.return_, 1) := by decide +kernel
