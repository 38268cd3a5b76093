theorem dX0_init_0 : decode cX0_init 0 = .ok (.aload_n 0, 1) := by decide +kernel
theorem dX0_init_1 : decode cX0_init 1 = .ok (.invokespecial 3, 3) := by decide +kernel
theorem dX0_init_4 : decode cX0_init 4 = .ok (.aload_n 0, 1) := by decide +kernel
theorem dX0_init_5 : decode cX0_init 5 = .ok (.bipush 60, 2) := by decide +kernel
theorem dX0_init_7 : decode cX0_init 7 = .ok (.newarray .int, 2) := by decide +kernel
theorem dX0_init_9 : decode cX0_init 9 = .ok (.putfield 9, 3) := by decide +kernel
theorem dX0_init_12 : decode cX0_init 12 = .ok (.return_, 1) := by decide +kernel
set_option maxRecDepth 20000 in
theorem ggX0_addCube_J6_bitCount_0f7a4 : GoodIn wsX0_addCube wsJ6_bitCount_0f7a4 := goodIn_r _ [5, 6, 7, 8] (by decide +kernel) (by decide +kernel)
set_option maxRecDepth 20000 in
theorem gX0_addCube_J6_bitCount_0f7a4 : GoodIn wsX0_addCube (va_wsS RX0 19 yJ6_bitCount_0f7a4 wsJ6_bitCount_0f7a4) := goodIn_app (goodIn_r _ [2, 3, 4] (by decide +kernel) (by decide +kernel)) ggX0_addCube_J6_bitCount_0f7a4
theorem dX0_addCube_0 : decode cX0_addCube 0 = .ok (.iload_n 1, 1) := by decide +kernel
theorem dX0_addCube_1 : decode cX0_addCube 1 = .ok (.ifCond .lt 26, 3) := by decide +kernel
theorem dX0_addCube_4 : decode cX0_addCube 4 = .ok (.iload_n 1, 1) := by decide +kernel
theorem dX0_addCube_5 : decode cX0_addCube 5 = .ok (.iconst 3, 1) := by decide +kernel
theorem dX0_addCube_6 : decode cX0_addCube 6 = .ok (.if_icmp .ge 21, 3) := by decide +kernel
theorem dX0_addCube_9 : decode cX0_addCube 9 = .ok (.iload_n 2, 1) := by decide +kernel
theorem dX0_addCube_10 : decode cX0_addCube 10 = .ok (.ifCond .lt 17, 3) := by decide +kernel
theorem dX0_addCube_13 : decode cX0_addCube 13 = .ok (.iload_n 2, 1) := by decide +kernel
theorem dX0_addCube_14 : decode cX0_addCube 14 = .ok (.iconst 3, 1) := by decide +kernel
theorem dX0_addCube_15 : decode cX0_addCube 15 = .ok (.if_icmp .ge 12, 3) := by decide +kernel
theorem dX0_addCube_18 : decode cX0_addCube 18 = .ok (.iload_n 3, 1) := by decide +kernel
theorem dX0_addCube_19 : decode cX0_addCube 19 = .ok (.ifCond .lt 8, 3) := by decide +kernel
theorem dX0_addCube_22 : decode cX0_addCube 22 = .ok (.iload_n 3, 1) := by decide +kernel
theorem dX0_addCube_23 : decode cX0_addCube 23 = .ok (.iconst 3, 1) := by decide +kernel
theorem dX0_addCube_24 : decode cX0_addCube 24 = .ok (.if_icmp .lt 5, 3) := by decide +kernel
theorem dX0_addCube_27 : decode cX0_addCube 27 = .ok (.iconst 0, 1) := by decide +kernel
theorem dX0_addCube_28 : decode cX0_addCube 28 = .ok (.ireturn, 1) := by decide +kernel
theorem dX0_addCube_29 : decode cX0_addCube 29 = .ok (.iconst 1, 1) := by decide +kernel
theorem dX0_addCube_30 : decode cX0_addCube 30 = .ok (.iload_n 1, 1) := by decide +kernel
theorem dX0_addCube_31 : decode cX0_addCube 31 = .ok (.iconst 3, 1) := by decide +kernel
theorem dX0_addCube_32 : decode cX0_addCube 32 = .ok (.iload_n 2, 1) := by decide +kernel
theorem dX0_addCube_33 : decode cX0_addCube 33 = .ok (.imul, 1) := by decide +kernel
theorem dX0_addCube_34 : decode cX0_addCube 34 = .ok (.iadd, 1) := by decide +kernel
theorem dX0_addCube_35 : decode cX0_addCube 35 = .ok (.bipush 9, 2) := by decide +kernel
theorem dX0_addCube_37 : decode cX0_addCube 37 = .ok (.iload_n 3, 1) := by decide +kernel
theorem dX0_addCube_38 : decode cX0_addCube 38 = .ok (.imul, 1) := by decide +kernel
theorem dX0_addCube_39 : decode cX0_addCube 39 = .ok (.iadd, 1) := by decide +kernel
theorem dX0_addCube_40 : decode cX0_addCube 40 = .ok (.ishl, 1) := by decide +kernel
theorem dX0_addCube_41 : decode cX0_addCube 41 = .ok (.istore 4, 2) := by decide +kernel
theorem dX0_addCube_43 : decode cX0_addCube 43 = .ok (.aload_n 0, 1) := by decide +kernel
theorem dX0_addCube_44 : decode cX0_addCube 44 = .ok (.getfield 15, 3) := by decide +kernel
theorem dX0_addCube_47 : decode cX0_addCube 47 = .ok (.iload 4, 2) := by decide +kernel
theorem dX0_addCube_49 : decode cX0_addCube 49 = .ok (.iand, 1) := by decide +kernel
theorem dX0_addCube_50 : decode cX0_addCube 50 = .ok (.ifCond .ne 15, 3) := by decide +kernel
theorem dX0_addCube_53 : decode cX0_addCube 53 = .ok (.aload_n 0, 1) := by decide +kernel
theorem dX0_addCube_54 : decode cX0_addCube 54 = .ok (.getfield 15, 3) := by decide +kernel
theorem dX0_addCube_57 : decode cX0_addCube 57 = .ok (.invokestatic 19, 3) := by decide +kernel
theorem dX0_addCube_60 : decode cX0_addCube 60 = .ok (.bipush 7, 2) := by decide +kernel
theorem dX0_addCube_62 : decode cX0_addCube 62 = .ok (.if_icmp .lt 5, 3) := by decide +kernel
theorem dX0_addCube_65 : decode cX0_addCube 65 = .ok (.iconst 0, 1) := by decide +kernel
theorem dX0_addCube_66 : decode cX0_addCube 66 = .ok (.ireturn, 1) := by decide +kernel
theorem dX0_addCube_67 : decode cX0_addCube 67 = .ok (.aload_n 0, 1) := by decide +kernel
theorem dX0_addCube_68 : decode cX0_addCube 68 = .ok (.dup, 1) := by decide +kernel
theorem dX0_addCube_69 : decode cX0_addCube 69 = .ok (.getfield 15, 3) := by decide +kernel
theorem dX0_addCube_72 : decode cX0_addCube 72 = .ok (.iload 4, 2) := by decide +kernel
theorem dX0_addCube_74 : decode cX0_addCube 74 = .ok (.ior, 1) := by decide +kernel
theorem dX0_addCube_75 : decode cX0_addCube 75 = .ok (.putfield 15, 3) := by decide +kernel
theorem dX0_addCube_78 : decode cX0_addCube 78 = .ok (.iconst 1, 1) := by decide +kernel
theorem dX0_addCube_79 : decode cX0_addCube 79 = .ok (.ireturn, 1) := by decide +kernel
theorem dX0_isEmpty_0 : decode cX0_isEmpty 0 = .ok (.aload_n 0, 1) := by decide +kernel
theorem dX0_isEmpty_1 : decode cX0_isEmpty 1 = .ok (.getfield 15, 3) := by decide +kernel
theorem dX0_isEmpty_4 : decode cX0_isEmpty 4 = .ok (.ifCond .ne 7, 3) := by decide +kernel
theorem dX0_isEmpty_7 : decode cX0_isEmpty 7 = .ok (.iconst 1, 1) := by decide +kernel
theorem dX0_isEmpty_8 : decode cX0_isEmpty 8 = .ok (.goto 4, 3) := by decide +kernel
theorem dX0_isEmpty_11 : decode cX0_isEmpty 11 = .ok (.iconst 0, 1) := by decide +kernel
theorem dX0_isEmpty_12 : decode cX0_isEmpty 12 = .ok (.ireturn, 1) := by decide +kernel
theorem dX0_clear_0 : decode cX0_clear 0 = .ok (.aload_n 0, 1) := by decide +kernel
theorem dX0_clear_1 : decode cX0_clear 1 = .ok (.iconst 0, 1) := by decide +kernel
theorem dX0_clear_2 : decode cX0_clear 2 = .ok (.putfield 15, 3) := by decide +kernel
theorem dX0_clear_5 : decode cX0_clear 5 = .ok (.return_, 1) := by decide +kernel
theorem dX0_chooseBox_0 : decode cX0_chooseBox 0 = .ok (.aload_n 0, 1) := by decide +kernel
theorem dX0_chooseBox_1 : decode cX0_chooseBox 1 = .ok (.iload_n 1, 1) := by decide +kernel
theorem dX0_chooseBox_2 : decode cX0_chooseBox 2 = .ok (.putfield 25, 3) := by decide +kernel
theorem dX0_chooseBox_5 : decode cX0_chooseBox 5 = .ok (.aload_n 0, 1) := by decide +kernel
theorem dX0_chooseBox_6 : decode cX0_chooseBox 6 = .ok (.iload_n 2, 1) := by decide +kernel
theorem dX0_chooseBox_7 : decode cX0_chooseBox 7 = .ok (.putfield 28, 3) := by decide +kernel
theorem dX0_chooseBox_10 : decode cX0_chooseBox 10 = .ok (.aload_n 0, 1) := by decide +kernel
theorem dX0_chooseBox_11 : decode cX0_chooseBox 11 = .ok (.iload_n 3, 1) := by decide +kernel
theorem dX0_chooseBox_12 : decode cX0_chooseBox 12 = .ok (.putfield 31, 3) := by decide +kernel
theorem dX0_chooseBox_15 : decode cX0_chooseBox 15 = .ok (.return_, 1) := by decide +kernel
set_option maxRecDepth 20000 in
theorem ggX0_findSets_X0_isTurn : GoodIn wsX0_findSets wsX0_isTurn := goodIn_r _ [6, 7, 8, 9, 10, 11, 12, 13] (by decide +kernel) (by decide +kernel)
set_option maxRecDepth 20000 in
theorem gX0_findSets_X0_isTurn : GoodIn wsX0_findSets (va_wsS RX0 41 yX0_isTurn wsX0_isTurn) := goodIn_app (goodIn_r _ [3, 4, 5] (by decide +kernel) (by decide +kernel)) ggX0_findSets_X0_isTurn
set_option maxRecDepth 20000 in
theorem ggX0_findSets_X0_isOfKind : GoodIn wsX0_findSets wsX0_isOfKind := goodIn_r _ [16, 17] (by decide +kernel) (by decide +kernel)
set_option maxRecDepth 20000 in
theorem gX0_findSets_X0_isOfKind : GoodIn wsX0_findSets (va_wsS RX0 45 yX0_isOfKind wsX0_isOfKind) := goodIn_app (goodIn_r _ [14, 15, 5] (by decide +kernel) (by decide +kernel)) ggX0_findSets_X0_isOfKind
set_option maxRecDepth 20000 in
theorem ggX0_findSets_X0_turned : GoodIn wsX0_findSets wsX0_turned := goodIn_r _ [21, 22, 23, 24, 5, 25, 17, 26, 27, 28, 45, 46, 47, 48, 49, 50, 51] (by decide +kernel) (by decide +kernel)
set_option maxRecDepth 20000 in
theorem gX0_findSets_X0_turned : GoodIn wsX0_findSets (wsV RX0 49 RX0 yX0_turned wsX0_turned) := goodIn_app (goodIn_r _ [18, 19, 20, 5] (by decide +kernel) (by decide +kernel)) ggX0_findSets_X0_turned
set_option maxRecDepth 20000 in
theorem ggX0_findSets_X0_moveAbout : GoodIn wsX0_findSets wsX0_moveAbout := goodIn_r _ [32, 33, 34, 35, 36, 37, 38, 5, 39, 26, 27, 28, 40, 41, 42, 43, 1, 44, 2, 45, 46, 47, 48, 49, 50, 51] (by decide +kernel) (by decide +kernel)
set_option maxRecDepth 20000 in
theorem gX0_findSets_X0_moveAbout : GoodIn wsX0_findSets (wsV RX0 53 RX0 yX0_moveAbout wsX0_moveAbout) := goodIn_app (goodIn_r _ [29, 30, 31, 5] (by decide +kernel) (by decide +kernel)) ggX0_findSets_X0_moveAbout
theorem dX0_findSets_0 : decode cX0_findSets 0 = .ok (.aload_n 0, 1) := by decide +kernel
theorem dX0_findSets_1 : decode cX0_findSets 1 = .ok (.iconst 0, 1) := by decide +kernel
theorem dX0_findSets_2 : decode cX0_findSets 2 = .ok (.putfield 34, 3) := by decide +kernel
theorem dX0_findSets_5 : decode cX0_findSets 5 = .ok (.aload_n 0, 1) := by decide +kernel
theorem dX0_findSets_6 : decode cX0_findSets 6 = .ok (.iconst 0, 1) := by decide +kernel
theorem dX0_findSets_7 : decode cX0_findSets 7 = .ok (.putfield 37, 3) := by decide +kernel
theorem dX0_findSets_10 : decode cX0_findSets 10 = .ok (.iconst 0, 1) := by decide +kernel
theorem dX0_findSets_11 : decode cX0_findSets 11 = .ok (.istore_n 3, 1) := by decide +kernel
theorem dX0_findSets_12 : decode cX0_findSets 12 = .ok (.iload_n 3, 1) := by decide +kernel
theorem dX0_findSets_13 : decode cX0_findSets 13 = .ok (.bipush 6, 2) := by decide +kernel
theorem dX0_findSets_15 : decode cX0_findSets 15 = .ok (.if_icmp .ge 56, 3) := by decide +kernel
theorem dX0_findSets_18 : decode cX0_findSets 18 = .ok (.iconst 0, 1) := by decide +kernel
theorem dX0_findSets_19 : decode cX0_findSets 19 = .ok (.istore 4, 2) := by decide +kernel
theorem dX0_findSets_21 : decode cX0_findSets 21 = .ok (.iload 4, 2) := by decide +kernel
theorem dX0_findSets_23 : decode cX0_findSets 23 = .ok (.bipush 8, 2) := by decide +kernel
theorem dX0_findSets_25 : decode cX0_findSets 25 = .ok (.if_icmp .ge 40, 3) := by decide +kernel
theorem dX0_findSets_28 : decode cX0_findSets 28 = .ok (.iload_n 3, 1) := by decide +kernel
theorem dX0_findSets_29 : decode cX0_findSets 29 = .ok (.iload 4, 2) := by decide +kernel
theorem dX0_findSets_31 : decode cX0_findSets 31 = .ok (.invokestatic 41, 3) := by decide +kernel
theorem dX0_findSets_34 : decode cX0_findSets 34 = .ok (.ifCond .eq 25, 3) := by decide +kernel
theorem dX0_findSets_37 : decode cX0_findSets 37 = .ok (.iload_n 1, 1) := by decide +kernel
theorem dX0_findSets_38 : decode cX0_findSets 38 = .ok (.iload_n 3, 1) := by decide +kernel
theorem dX0_findSets_39 : decode cX0_findSets 39 = .ok (.iload 4, 2) := by decide +kernel
theorem dX0_findSets_41 : decode cX0_findSets 41 = .ok (.invokestatic 45, 3) := by decide +kernel
theorem dX0_findSets_44 : decode cX0_findSets 44 = .ok (.ifCond .eq 15, 3) := by decide +kernel
theorem dX0_findSets_47 : decode cX0_findSets 47 = .ok (.aload_n 0, 1) := by decide +kernel
theorem dX0_findSets_48 : decode cX0_findSets 48 = .ok (.aload_n 0, 1) := by decide +kernel
theorem dX0_findSets_49 : decode cX0_findSets 49 = .ok (.iload_n 3, 1) := by decide +kernel
theorem dX0_findSets_50 : decode cX0_findSets 50 = .ok (.iload 4, 2) := by decide +kernel
theorem dX0_findSets_52 : decode cX0_findSets 52 = .ok (.invokevirtual 49, 3) := by decide +kernel
theorem dX0_findSets_55 : decode cX0_findSets 55 = .ok (.iload_n 2, 1) := by decide +kernel
theorem dX0_findSets_56 : decode cX0_findSets 56 = .ok (.invokevirtual 53, 3) := by decide +kernel
theorem dX0_findSets_59 : decode cX0_findSets 59 = .ok (.iinc 4 1, 3) := by decide +kernel
theorem dX0_findSets_62 : decode cX0_findSets 62 = .ok (.goto (-41), 3) := by decide +kernel
theorem dX0_findSets_65 : decode cX0_findSets 65 = .ok (.iinc 3 1, 3) := by decide +kernel
theorem dX0_findSets_68 : decode cX0_findSets 68 = .ok (.goto (-56), 3) := by decide +kernel
theorem dX0_findSets_71 : decode cX0_findSets 71 = .ok (.aload_n 0, 1) := by decide +kernel
theorem dX0_findSets_72 : decode cX0_findSets 72 = .ok (.getfield 37, 3) := by decide +kernel
theorem dX0_findSets_75 : decode cX0_findSets 75 = .ok (.ifCond .eq 7, 3) := by decide +kernel
theorem dX0_findSets_78 : decode cX0_findSets 78 = .ok (.iconst (-1), 1) := by decide +kernel
theorem dX0_findSets_79 : decode cX0_findSets 79 = .ok (.goto 7, 3) := by decide +kernel
theorem dX0_findSets_82 : decode cX0_findSets 82 = .ok (.aload_n 0, 1) := by decide +kernel
theorem dX0_findSets_83 : decode cX0_findSets 83 = .ok (.getfield 34, 3) := by decide +kernel
theorem dX0_findSets_86 : decode cX0_findSets 86 = .ok (.ireturn, 1) := by decide +kernel
set_option maxRecDepth 20000 in
theorem ggX0_isTurn_J6_bitCount_0f7a4 : GoodIn wsX0_isTurn wsJ6_bitCount_0f7a4 := goodIn_r _ [4, 5, 6, 7] (by decide +kernel) (by decide +kernel)
set_option maxRecDepth 20000 in
theorem gX0_isTurn_J6_bitCount_0f7a4 : GoodIn wsX0_isTurn (va_wsS RX0 19 yJ6_bitCount_0f7a4 wsJ6_bitCount_0f7a4) := goodIn_app (goodIn_r _ [1, 2, 3] (by decide +kernel) (by decide +kernel)) ggX0_isTurn_J6_bitCount_0f7a4
theorem dX0_isTurn_0 : decode cX0_isTurn 0 = .ok (.iload_n 0, 1) := by decide +kernel
theorem dX0_isTurn_1 : decode cX0_isTurn 1 = .ok (.iconst 3, 1) := by decide +kernel
theorem dX0_isTurn_2 : decode cX0_isTurn 2 = .ok (.if_icmp .lt 7, 3) := by decide +kernel
theorem dX0_isTurn_5 : decode cX0_isTurn 5 = .ok (.iconst 1, 1) := by decide +kernel
theorem dX0_isTurn_6 : decode cX0_isTurn 6 = .ok (.goto 4, 3) := by decide +kernel
theorem dX0_isTurn_9 : decode cX0_isTurn 9 = .ok (.iconst 0, 1) := by decide +kernel
theorem dX0_isTurn_10 : decode cX0_isTurn 10 = .ok (.istore_n 2, 1) := by decide +kernel
theorem dX0_isTurn_11 : decode cX0_isTurn 11 = .ok (.iload_n 1, 1) := by decide +kernel
theorem dX0_isTurn_12 : decode cX0_isTurn 12 = .ok (.invokestatic 19, 3) := by decide +kernel
theorem dX0_isTurn_15 : decode cX0_isTurn 15 = .ok (.iconst 1, 1) := by decide +kernel
theorem dX0_isTurn_16 : decode cX0_isTurn 16 = .ok (.iand, 1) := by decide +kernel
theorem dX0_isTurn_17 : decode cX0_isTurn 17 = .ok (.ifCond .eq 7, 3) := by decide +kernel
theorem dX0_isTurn_20 : decode cX0_isTurn 20 = .ok (.iconst 1, 1) := by decide +kernel
theorem dX0_isTurn_21 : decode cX0_isTurn 21 = .ok (.goto 4, 3) := by decide +kernel
theorem dX0_isTurn_24 : decode cX0_isTurn 24 = .ok (.iconst 0, 1) := by decide +kernel
theorem dX0_isTurn_25 : decode cX0_isTurn 25 = .ok (.istore_n 3, 1) := by decide +kernel
theorem dX0_isTurn_26 : decode cX0_isTurn 26 = .ok (.iload_n 2, 1) := by decide +kernel
theorem dX0_isTurn_27 : decode cX0_isTurn 27 = .ok (.iload_n 3, 1) := by decide +kernel
theorem dX0_isTurn_28 : decode cX0_isTurn 28 = .ok (.if_icmp .ne 7, 3) := by decide +kernel
theorem dX0_isTurn_31 : decode cX0_isTurn 31 = .ok (.iconst 1, 1) := by decide +kernel
theorem dX0_isTurn_32 : decode cX0_isTurn 32 = .ok (.goto 4, 3) := by decide +kernel
theorem dX0_isTurn_35 : decode cX0_isTurn 35 = .ok (.iconst 0, 1) := by decide +kernel
theorem dX0_isTurn_36 : decode cX0_isTurn 36 = .ok (.ireturn, 1) := by decide +kernel
theorem dX0_isOfKind_0 : decode cX0_isOfKind 0 = .ok (.getstatic 57, 3) := by decide +kernel
theorem dX0_isOfKind_3 : decode cX0_isOfKind 3 = .ok (.iload_n 1, 1) := by decide +kernel
theorem dX0_isOfKind_4 : decode cX0_isOfKind 4 = .ok (.iconst 3, 1) := by decide +kernel
theorem dX0_isOfKind_5 : decode cX0_isOfKind 5 = .ok (.imul, 1) := by decide +kernel
theorem dX0_isOfKind_6 : decode cX0_isOfKind 6 = .ok (.iconst 2, 1) := by decide +kernel
theorem dX0_isOfKind_7 : decode cX0_isOfKind 7 = .ok (.iadd, 1) := by decide +kernel
theorem dX0_isOfKind_8 : decode cX0_isOfKind 8 = .ok (.iaload, 1) := by decide +kernel
theorem dX0_isOfKind_9 : decode cX0_isOfKind 9 = .ok (.iconst 2, 1) := by decide +kernel
theorem dX0_isOfKind_10 : decode cX0_isOfKind 10 = .ok (.if_icmp .ne 7, 3) := by decide +kernel
theorem dX0_isOfKind_13 : decode cX0_isOfKind 13 = .ok (.iconst 1, 1) := by decide +kernel
theorem dX0_isOfKind_14 : decode cX0_isOfKind 14 = .ok (.goto 4, 3) := by decide +kernel
theorem dX0_isOfKind_17 : decode cX0_isOfKind 17 = .ok (.iconst 0, 1) := by decide +kernel
theorem dX0_isOfKind_18 : decode cX0_isOfKind 18 = .ok (.istore_n 3, 1) := by decide +kernel
theorem dX0_isOfKind_19 : decode cX0_isOfKind 19 = .ok (.iload_n 2, 1) := by decide +kernel
theorem dX0_isOfKind_20 : decode cX0_isOfKind 20 = .ok (.iconst 2, 1) := by decide +kernel
theorem dX0_isOfKind_21 : decode cX0_isOfKind 21 = .ok (.ishr, 1) := by decide +kernel
theorem dX0_isOfKind_22 : decode cX0_isOfKind 22 = .ok (.iconst 1, 1) := by decide +kernel
theorem dX0_isOfKind_23 : decode cX0_isOfKind 23 = .ok (.iand, 1) := by decide +kernel
theorem dX0_isOfKind_24 : decode cX0_isOfKind 24 = .ok (.ifCond .eq 7, 3) := by decide +kernel
theorem dX0_isOfKind_27 : decode cX0_isOfKind 27 = .ok (.iconst 1, 1) := by decide +kernel
theorem dX0_isOfKind_28 : decode cX0_isOfKind 28 = .ok (.goto 4, 3) := by decide +kernel
theorem dX0_isOfKind_31 : decode cX0_isOfKind 31 = .ok (.iconst 0, 1) := by decide +kernel
theorem dX0_isOfKind_32 : decode cX0_isOfKind 32 = .ok (.istore 4, 2) := by decide +kernel
theorem dX0_isOfKind_34 : decode cX0_isOfKind 34 = .ok (.iload_n 0, 1) := by decide +kernel
theorem dX0_isOfKind_35 : decode cX0_isOfKind 35 = .ok (.tableswitch 56 0 2 #[25, 39, 54], 25) := by decide +kernel
theorem dX0_isOfKind_60 : decode cX0_isOfKind 60 = .ok (.iload_n 1, 1) := by decide +kernel
theorem dX0_isOfKind_61 : decode cX0_isOfKind 61 = .ok (.ifCond .ne 11, 3) := by decide +kernel
theorem dX0_isOfKind_64 : decode cX0_isOfKind 64 = .ok (.iload_n 2, 1) := by decide +kernel
theorem dX0_isOfKind_65 : decode cX0_isOfKind 65 = .ok (.ifCond .ne 7, 3) := by decide +kernel
theorem dX0_isOfKind_68 : decode cX0_isOfKind 68 = .ok (.iconst 1, 1) := by decide +kernel
theorem dX0_isOfKind_69 : decode cX0_isOfKind 69 = .ok (.goto 4, 3) := by decide +kernel
theorem dX0_isOfKind_72 : decode cX0_isOfKind 72 = .ok (.iconst 0, 1) := by decide +kernel
theorem dX0_isOfKind_73 : decode cX0_isOfKind 73 = .ok (.ireturn, 1) := by decide +kernel
theorem dX0_isOfKind_74 : decode cX0_isOfKind 74 = .ok (.iload_n 3, 1) := by decide +kernel
theorem dX0_isOfKind_75 : decode cX0_isOfKind 75 = .ok (.ifCond .eq 12, 3) := by decide +kernel
theorem dX0_isOfKind_78 : decode cX0_isOfKind 78 = .ok (.iload 4, 2) := by decide +kernel
theorem dX0_isOfKind_80 : decode cX0_isOfKind 80 = .ok (.ifCond .ne 7, 3) := by decide +kernel
theorem dX0_isOfKind_83 : decode cX0_isOfKind 83 = .ok (.iconst 1, 1) := by decide +kernel
theorem dX0_isOfKind_84 : decode cX0_isOfKind 84 = .ok (.goto 4, 3) := by decide +kernel
theorem dX0_isOfKind_87 : decode cX0_isOfKind 87 = .ok (.iconst 0, 1) := by decide +kernel
theorem dX0_isOfKind_88 : decode cX0_isOfKind 88 = .ok (.ireturn, 1) := by decide +kernel
theorem dX0_isOfKind_89 : decode cX0_isOfKind 89 = .ok (.iload_n 3, 1) := by decide +kernel
theorem dX0_isOfKind_90 : decode cX0_isOfKind 90 = .ok (.ireturn, 1) := by decide +kernel
theorem dX0_isOfKind_91 : decode cX0_isOfKind 91 = .ok (.iconst 1, 1) := by decide +kernel
theorem dX0_isOfKind_92 : decode cX0_isOfKind 92 = .ok (.ireturn, 1) := by decide +kernel
set_option maxRecDepth 20000 in
theorem ggX0_turned_X0_turnedCell : GoodIn wsX0_turned wsX0_turnedCell := goodIn_r _ [5, 6, 7, 8, 4, 9] (by decide +kernel) (by decide +kernel)
set_option maxRecDepth 20000 in
theorem gX0_turned_X0_turnedCell : GoodIn wsX0_turned (va_wsS RX0 60 yX0_turnedCell wsX0_turnedCell) := goodIn_app (goodIn_r _ [2, 3, 4] (by decide +kernel) (by decide +kernel)) ggX0_turned_X0_turnedCell
theorem dX0_turned_0 : decode cX0_turned 0 = .ok (.iconst 0, 1) := by decide +kernel
theorem dX0_turned_1 : decode cX0_turned 1 = .ok (.istore_n 3, 1) := by decide +kernel
theorem dX0_turned_2 : decode cX0_turned 2 = .ok (.iconst 0, 1) := by decide +kernel
theorem dX0_turned_3 : decode cX0_turned 3 = .ok (.istore 4, 2) := by decide +kernel
theorem dX0_turned_5 : decode cX0_turned 5 = .ok (.iload 4, 2) := by decide +kernel
theorem dX0_turned_7 : decode cX0_turned 7 = .ok (.bipush 27, 2) := by decide +kernel
theorem dX0_turned_9 : decode cX0_turned 9 = .ok (.if_icmp .ge 33, 3) := by decide +kernel
theorem dX0_turned_12 : decode cX0_turned 12 = .ok (.aload_n 0, 1) := by decide +kernel
theorem dX0_turned_13 : decode cX0_turned 13 = .ok (.getfield 15, 3) := by decide +kernel
theorem dX0_turned_16 : decode cX0_turned 16 = .ok (.iload 4, 2) := by decide +kernel
theorem dX0_turned_18 : decode cX0_turned 18 = .ok (.ishr, 1) := by decide +kernel
theorem dX0_turned_19 : decode cX0_turned 19 = .ok (.iconst 1, 1) := by decide +kernel
theorem dX0_turned_20 : decode cX0_turned 20 = .ok (.iand, 1) := by decide +kernel
theorem dX0_turned_21 : decode cX0_turned 21 = .ok (.ifCond .eq 15, 3) := by decide +kernel
theorem dX0_turned_24 : decode cX0_turned 24 = .ok (.iload_n 3, 1) := by decide +kernel
theorem dX0_turned_25 : decode cX0_turned 25 = .ok (.iconst 1, 1) := by decide +kernel
theorem dX0_turned_26 : decode cX0_turned 26 = .ok (.iload 4, 2) := by decide +kernel
theorem dX0_turned_28 : decode cX0_turned 28 = .ok (.iload_n 1, 1) := by decide +kernel
theorem dX0_turned_29 : decode cX0_turned 29 = .ok (.iload_n 2, 1) := by decide +kernel
theorem dX0_turned_30 : decode cX0_turned 30 = .ok (.invokestatic 60, 3) := by decide +kernel
theorem dX0_turned_33 : decode cX0_turned 33 = .ok (.ishl, 1) := by decide +kernel
theorem dX0_turned_34 : decode cX0_turned 34 = .ok (.ior, 1) := by decide +kernel
theorem dX0_turned_35 : decode cX0_turned 35 = .ok (.istore_n 3, 1) := by decide +kernel
theorem dX0_turned_36 : decode cX0_turned 36 = .ok (.iinc 4 1, 3) := by decide +kernel
theorem dX0_turned_39 : decode cX0_turned 39 = .ok (.goto (-34), 3) := by decide +kernel
theorem dX0_turned_42 : decode cX0_turned 42 = .ok (.iload_n 3, 1) := by decide +kernel
theorem dX0_turned_43 : decode cX0_turned 43 = .ok (.ireturn, 1) := by decide +kernel
set_option maxRecDepth 20000 in
theorem ggX0_turnedCell_X0_placeOn : GoodIn wsX0_turnedCell wsX0_placeOn := goodIn_r _ [5] (by decide +kernel) (by decide +kernel)
set_option maxRecDepth 20000 in
theorem gX0_turnedCell_X0_placeOn : GoodIn wsX0_turnedCell (va_wsS RX0 64 yX0_placeOn wsX0_placeOn) := goodIn_app (goodIn_r _ [2, 3, 4] (by decide +kernel) (by decide +kernel)) ggX0_turnedCell_X0_placeOn
theorem dX0_turnedCell_0 : decode cX0_turnedCell 0 = .ok (.iconst 0, 1) := by decide +kernel
theorem dX0_turnedCell_1 : decode cX0_turnedCell 1 = .ok (.istore_n 3, 1) := by decide +kernel
theorem dX0_turnedCell_2 : decode cX0_turnedCell 2 = .ok (.iconst 1, 1) := by decide +kernel
theorem dX0_turnedCell_3 : decode cX0_turnedCell 3 = .ok (.istore 4, 2) := by decide +kernel
theorem dX0_turnedCell_5 : decode cX0_turnedCell 5 = .ok (.iconst 0, 1) := by decide +kernel
theorem dX0_turnedCell_6 : decode cX0_turnedCell 6 = .ok (.istore 5, 2) := by decide +kernel
theorem dX0_turnedCell_8 : decode cX0_turnedCell 8 = .ok (.iload 5, 2) := by decide +kernel
theorem dX0_turnedCell_10 : decode cX0_turnedCell 10 = .ok (.iconst 3, 1) := by decide +kernel
theorem dX0_turnedCell_11 : decode cX0_turnedCell 11 = .ok (.if_icmp .ge 67, 3) := by decide +kernel
theorem dX0_turnedCell_14 : decode cX0_turnedCell 14 = .ok (.iload_n 0, 1) := by decide +kernel
theorem dX0_turnedCell_15 : decode cX0_turnedCell 15 = .ok (.getstatic 57, 3) := by decide +kernel
theorem dX0_turnedCell_18 : decode cX0_turnedCell 18 = .ok (.iload_n 1, 1) := by decide +kernel
theorem dX0_turnedCell_19 : decode cX0_turnedCell 19 = .ok (.iconst 3, 1) := by decide +kernel
theorem dX0_turnedCell_20 : decode cX0_turnedCell 20 = .ok (.imul, 1) := by decide +kernel
theorem dX0_turnedCell_21 : decode cX0_turnedCell 21 = .ok (.iload 5, 2) := by decide +kernel
theorem dX0_turnedCell_23 : decode cX0_turnedCell 23 = .ok (.iadd, 1) := by decide +kernel
theorem dX0_turnedCell_24 : decode cX0_turnedCell 24 = .ok (.iaload, 1) := by decide +kernel
theorem dX0_turnedCell_25 : decode cX0_turnedCell 25 = .ok (.invokestatic 64, 3) := by decide +kernel
theorem dX0_turnedCell_28 : decode cX0_turnedCell 28 = .ok (.istore 6, 2) := by decide +kernel
theorem dX0_turnedCell_30 : decode cX0_turnedCell 30 = .ok (.iload_n 2, 1) := by decide +kernel
theorem dX0_turnedCell_31 : decode cX0_turnedCell 31 = .ok (.iload 5, 2) := by decide +kernel
theorem dX0_turnedCell_33 : decode cX0_turnedCell 33 = .ok (.ishr, 1) := by decide +kernel
theorem dX0_turnedCell_34 : decode cX0_turnedCell 34 = .ok (.iconst 1, 1) := by decide +kernel
theorem dX0_turnedCell_35 : decode cX0_turnedCell 35 = .ok (.iand, 1) := by decide +kernel
theorem dX0_turnedCell_36 : decode cX0_turnedCell 36 = .ok (.ifCond .eq 7, 3) := by decide +kernel
theorem dX0_turnedCell_39 : decode cX0_turnedCell 39 = .ok (.iconst 1, 1) := by decide +kernel
theorem dX0_turnedCell_40 : decode cX0_turnedCell 40 = .ok (.goto 4, 3) := by decide +kernel
theorem dX0_turnedCell_43 : decode cX0_turnedCell 43 = .ok (.iconst 0, 1) := by decide +kernel
theorem dX0_turnedCell_44 : decode cX0_turnedCell 44 = .ok (.istore 7, 2) := by decide +kernel
theorem dX0_turnedCell_46 : decode cX0_turnedCell 46 = .ok (.iload_n 3, 1) := by decide +kernel
theorem dX0_turnedCell_47 : decode cX0_turnedCell 47 = .ok (.iload 4, 2) := by decide +kernel
theorem dX0_turnedCell_49 : decode cX0_turnedCell 49 = .ok (.iload 7, 2) := by decide +kernel
theorem dX0_turnedCell_51 : decode cX0_turnedCell 51 = .ok (.ifCond .eq 10, 3) := by decide +kernel
theorem dX0_turnedCell_54 : decode cX0_turnedCell 54 = .ok (.iconst 2, 1) := by decide +kernel
theorem dX0_turnedCell_55 : decode cX0_turnedCell 55 = .ok (.iload 6, 2) := by decide +kernel
theorem dX0_turnedCell_57 : decode cX0_turnedCell 57 = .ok (.isub, 1) := by decide +kernel
theorem dX0_turnedCell_58 : decode cX0_turnedCell 58 = .ok (.goto 5, 3) := by decide +kernel
theorem dX0_turnedCell_61 : decode cX0_turnedCell 61 = .ok (.iload 6, 2) := by decide +kernel
theorem dX0_turnedCell_63 : decode cX0_turnedCell 63 = .ok (.imul, 1) := by decide +kernel
theorem dX0_turnedCell_64 : decode cX0_turnedCell 64 = .ok (.iadd, 1) := by decide +kernel
theorem dX0_turnedCell_65 : decode cX0_turnedCell 65 = .ok (.istore_n 3, 1) := by decide +kernel
theorem dX0_turnedCell_66 : decode cX0_turnedCell 66 = .ok (.iload 4, 2) := by decide +kernel
theorem dX0_turnedCell_68 : decode cX0_turnedCell 68 = .ok (.iconst 3, 1) := by decide +kernel
theorem dX0_turnedCell_69 : decode cX0_turnedCell 69 = .ok (.imul, 1) := by decide +kernel
theorem dX0_turnedCell_70 : decode cX0_turnedCell 70 = .ok (.istore 4, 2) := by decide +kernel
theorem dX0_turnedCell_72 : decode cX0_turnedCell 72 = .ok (.iinc 5 1, 3) := by decide +kernel
theorem dX0_turnedCell_75 : decode cX0_turnedCell 75 = .ok (.goto (-67), 3) := by decide +kernel
theorem dX0_turnedCell_78 : decode cX0_turnedCell 78 = .ok (.iload_n 3, 1) := by decide +kernel
theorem dX0_turnedCell_79 : decode cX0_turnedCell 79 = .ok (.ireturn, 1) := by decide +kernel
theorem dX0_placeOn_0 : decode cX0_placeOn 0 = .ok (.iload_n 1, 1) := by decide +kernel
theorem dX0_placeOn_1 : decode cX0_placeOn 1 = .ok (.ifCond .ne 7, 3) := by decide +kernel
theorem dX0_placeOn_4 : decode cX0_placeOn 4 = .ok (.iload_n 0, 1) := by decide +kernel
theorem dX0_placeOn_5 : decode cX0_placeOn 5 = .ok (.iconst 3, 1) := by decide +kernel
theorem dX0_placeOn_6 : decode cX0_placeOn 6 = .ok (.irem, 1) := by decide +kernel
theorem dX0_placeOn_7 : decode cX0_placeOn 7 = .ok (.ireturn, 1) := by decide +kernel
theorem dX0_placeOn_8 : decode cX0_placeOn 8 = .ok (.iload_n 1, 1) := by decide +kernel
theorem dX0_placeOn_9 : decode cX0_placeOn 9 = .ok (.iconst 1, 1) := by decide +kernel
theorem dX0_placeOn_10 : decode cX0_placeOn 10 = .ok (.if_icmp .ne 11, 3) := by decide +kernel
theorem dX0_placeOn_13 : decode cX0_placeOn 13 = .ok (.iload_n 0, 1) := by decide +kernel
theorem dX0_placeOn_14 : decode cX0_placeOn 14 = .ok (.iconst 3, 1) := by decide +kernel
theorem dX0_placeOn_15 : decode cX0_placeOn 15 = .ok (.idiv, 1) := by decide +kernel
theorem dX0_placeOn_16 : decode cX0_placeOn 16 = .ok (.iconst 3, 1) := by decide +kernel
theorem dX0_placeOn_17 : decode cX0_placeOn 17 = .ok (.irem, 1) := by decide +kernel
theorem dX0_placeOn_18 : decode cX0_placeOn 18 = .ok (.goto 7, 3) := by decide +kernel
theorem dX0_placeOn_21 : decode cX0_placeOn 21 = .ok (.iload_n 0, 1) := by decide +kernel
theorem dX0_placeOn_22 : decode cX0_placeOn 22 = .ok (.bipush 9, 2) := by decide +kernel
theorem dX0_placeOn_24 : decode cX0_placeOn 24 = .ok (.idiv, 1) := by decide +kernel
theorem dX0_placeOn_25 : decode cX0_placeOn 25 = .ok (.ireturn, 1) := by decide +kernel
set_option maxRecDepth 20000 in
theorem ggX0_moveAbout_X0_setAt : GoodIn wsX0_moveAbout wsX0_setAt := goodIn_r _ [8, 3, 2, 1, 9, 10, 7, 11, 19, 20, 21, 22, 23, 24, 25] (by decide +kernel) (by decide +kernel)
set_option maxRecDepth 20000 in
theorem gX0_moveAbout_X0_setAt : GoodIn wsX0_moveAbout (wsV RX0 67 RX0 yX0_setAt wsX0_setAt) := goodIn_app (goodIn_r _ [4, 5, 6, 7] (by decide +kernel) (by decide +kernel)) ggX0_moveAbout_X0_setAt
set_option maxRecDepth 20000 in
theorem ggX0_moveAbout_X0_keepSet : GoodIn wsX0_moveAbout wsX0_keepSet := goodIn_r _ [15, 16, 17, 18, 19, 20, 21, 22, 23, 24, 25] (by decide +kernel) (by decide +kernel)
set_option maxRecDepth 20000 in
theorem gX0_moveAbout_X0_keepSet : GoodIn wsX0_moveAbout (wsV RX0 71 RX0 yX0_keepSet wsX0_keepSet) := goodIn_app (goodIn_r _ [12, 13, 14, 7] (by decide +kernel) (by decide +kernel)) ggX0_moveAbout_X0_keepSet
theorem dX0_moveAbout_0 : decode cX0_moveAbout 0 = .ok (.bipush (-2), 2) := by decide +kernel
theorem dX0_moveAbout_2 : decode cX0_moveAbout 2 = .ok (.istore_n 3, 1) := by decide +kernel
theorem dX0_moveAbout_3 : decode cX0_moveAbout 3 = .ok (.iload_n 3, 1) := by decide +kernel
theorem dX0_moveAbout_4 : decode cX0_moveAbout 4 = .ok (.aload_n 0, 1) := by decide +kernel
theorem dX0_moveAbout_5 : decode cX0_moveAbout 5 = .ok (.getfield 31, 3) := by decide +kernel
theorem dX0_moveAbout_8 : decode cX0_moveAbout 8 = .ok (.if_icmp .ge 71, 3) := by decide +kernel
theorem dX0_moveAbout_11 : decode cX0_moveAbout 11 = .ok (.bipush (-2), 2) := by decide +kernel
theorem dX0_moveAbout_13 : decode cX0_moveAbout 13 = .ok (.istore 4, 2) := by decide +kernel
theorem dX0_moveAbout_15 : decode cX0_moveAbout 15 = .ok (.iload 4, 2) := by decide +kernel
theorem dX0_moveAbout_17 : decode cX0_moveAbout 17 = .ok (.aload_n 0, 1) := by decide +kernel
theorem dX0_moveAbout_18 : decode cX0_moveAbout 18 = .ok (.getfield 28, 3) := by decide +kernel
theorem dX0_moveAbout_21 : decode cX0_moveAbout 21 = .ok (.if_icmp .ge 52, 3) := by decide +kernel
theorem dX0_moveAbout_24 : decode cX0_moveAbout 24 = .ok (.bipush (-2), 2) := by decide +kernel
theorem dX0_moveAbout_26 : decode cX0_moveAbout 26 = .ok (.istore 5, 2) := by decide +kernel
theorem dX0_moveAbout_28 : decode cX0_moveAbout 28 = .ok (.iload 5, 2) := by decide +kernel
theorem dX0_moveAbout_30 : decode cX0_moveAbout 30 = .ok (.aload_n 0, 1) := by decide +kernel
theorem dX0_moveAbout_31 : decode cX0_moveAbout 31 = .ok (.getfield 25, 3) := by decide +kernel
theorem dX0_moveAbout_34 : decode cX0_moveAbout 34 = .ok (.if_icmp .ge 33, 3) := by decide +kernel
theorem dX0_moveAbout_37 : decode cX0_moveAbout 37 = .ok (.aload_n 0, 1) := by decide +kernel
theorem dX0_moveAbout_38 : decode cX0_moveAbout 38 = .ok (.iload_n 1, 1) := by decide +kernel
theorem dX0_moveAbout_39 : decode cX0_moveAbout 39 = .ok (.iload 5, 2) := by decide +kernel
theorem dX0_moveAbout_41 : decode cX0_moveAbout 41 = .ok (.iload 4, 2) := by decide +kernel
theorem dX0_moveAbout_43 : decode cX0_moveAbout 43 = .ok (.iload_n 3, 1) := by decide +kernel
theorem dX0_moveAbout_44 : decode cX0_moveAbout 44 = .ok (.invokevirtual 67, 3) := by decide +kernel
theorem dX0_moveAbout_47 : decode cX0_moveAbout 47 = .ok (.istore 6, 2) := by decide +kernel
theorem dX0_moveAbout_49 : decode cX0_moveAbout 49 = .ok (.iload 6, 2) := by decide +kernel
theorem dX0_moveAbout_51 : decode cX0_moveAbout 51 = .ok (.ifCond .eq 10, 3) := by decide +kernel
theorem dX0_moveAbout_54 : decode cX0_moveAbout 54 = .ok (.aload_n 0, 1) := by decide +kernel
theorem dX0_moveAbout_55 : decode cX0_moveAbout 55 = .ok (.iload 6, 2) := by decide +kernel
theorem dX0_moveAbout_57 : decode cX0_moveAbout 57 = .ok (.iload_n 2, 1) := by decide +kernel
theorem dX0_moveAbout_58 : decode cX0_moveAbout 58 = .ok (.invokevirtual 71, 3) := by decide +kernel
theorem dX0_moveAbout_61 : decode cX0_moveAbout 61 = .ok (.iinc 5 1, 3) := by decide +kernel
theorem dX0_moveAbout_64 : decode cX0_moveAbout 64 = .ok (.goto (-36), 3) := by decide +kernel
theorem dX0_moveAbout_67 : decode cX0_moveAbout 67 = .ok (.iinc 4 1, 3) := by decide +kernel
theorem dX0_moveAbout_70 : decode cX0_moveAbout 70 = .ok (.goto (-55), 3) := by decide +kernel
theorem dX0_moveAbout_73 : decode cX0_moveAbout 73 = .ok (.iinc 3 1, 3) := by decide +kernel
theorem dX0_moveAbout_76 : decode cX0_moveAbout 76 = .ok (.goto (-73), 3) := by decide +kernel
theorem dX0_moveAbout_79 : decode cX0_moveAbout 79 = .ok (.return_, 1) := by decide +kernel
set_option maxRecDepth 20000 in
theorem ggX0_setAt_X0_placeOn : GoodIn wsX0_setAt wsX0_placeOn := goodIn_r _ [7] (by decide +kernel) (by decide +kernel)
set_option maxRecDepth 20000 in
theorem gX0_setAt_X0_placeOn : GoodIn wsX0_setAt (va_wsS RX0 64 yX0_placeOn wsX0_placeOn) := goodIn_app (goodIn_r _ [4, 5, 6] (by decide +kernel) (by decide +kernel)) ggX0_setAt_X0_placeOn
theorem dX0_setAt_0 : decode cX0_setAt 0 = .ok (.iconst 0, 1) := by decide +kernel
theorem dX0_setAt_1 : decode cX0_setAt 1 = .ok (.istore 5, 2) := by decide +kernel
theorem dX0_setAt_3 : decode cX0_setAt 3 = .ok (.iconst 0, 1) := by decide +kernel
theorem dX0_setAt_4 : decode cX0_setAt 4 = .ok (.istore 6, 2) := by decide +kernel
theorem dX0_setAt_6 : decode cX0_setAt 6 = .ok (.iload 6, 2) := by decide +kernel
theorem dX0_setAt_8 : decode cX0_setAt 8 = .ok (.bipush 27, 2) := by decide +kernel
theorem dX0_setAt_10 : decode cX0_setAt 10 = .ok (.if_icmp .ge 118, 3) := by decide +kernel
theorem dX0_setAt_13 : decode cX0_setAt 13 = .ok (.iload_n 1, 1) := by decide +kernel
theorem dX0_setAt_14 : decode cX0_setAt 14 = .ok (.iload 6, 2) := by decide +kernel
theorem dX0_setAt_16 : decode cX0_setAt 16 = .ok (.ishr, 1) := by decide +kernel
theorem dX0_setAt_17 : decode cX0_setAt 17 = .ok (.iconst 1, 1) := by decide +kernel
theorem dX0_setAt_18 : decode cX0_setAt 18 = .ok (.iand, 1) := by decide +kernel
theorem dX0_setAt_19 : decode cX0_setAt 19 = .ok (.ifCond .eq 103, 3) := by decide +kernel
theorem dX0_setAt_22 : decode cX0_setAt 22 = .ok (.iload 6, 2) := by decide +kernel
theorem dX0_setAt_24 : decode cX0_setAt 24 = .ok (.iconst 0, 1) := by decide +kernel
theorem dX0_setAt_25 : decode cX0_setAt 25 = .ok (.invokestatic 64, 3) := by decide +kernel
theorem dX0_setAt_28 : decode cX0_setAt 28 = .ok (.iload_n 2, 1) := by decide +kernel
theorem dX0_setAt_29 : decode cX0_setAt 29 = .ok (.iadd, 1) := by decide +kernel
theorem dX0_setAt_30 : decode cX0_setAt 30 = .ok (.istore 7, 2) := by decide +kernel
theorem dX0_setAt_32 : decode cX0_setAt 32 = .ok (.iload 6, 2) := by decide +kernel
theorem dX0_setAt_34 : decode cX0_setAt 34 = .ok (.iconst 1, 1) := by decide +kernel
theorem dX0_setAt_35 : decode cX0_setAt 35 = .ok (.invokestatic 64, 3) := by decide +kernel
theorem dX0_setAt_38 : decode cX0_setAt 38 = .ok (.iload_n 3, 1) := by decide +kernel
theorem dX0_setAt_39 : decode cX0_setAt 39 = .ok (.iadd, 1) := by decide +kernel
theorem dX0_setAt_40 : decode cX0_setAt 40 = .ok (.istore 8, 2) := by decide +kernel
theorem dX0_setAt_42 : decode cX0_setAt 42 = .ok (.iload 6, 2) := by decide +kernel
theorem dX0_setAt_44 : decode cX0_setAt 44 = .ok (.iconst 2, 1) := by decide +kernel
theorem dX0_setAt_45 : decode cX0_setAt 45 = .ok (.invokestatic 64, 3) := by decide +kernel
theorem dX0_setAt_48 : decode cX0_setAt 48 = .ok (.iload 4, 2) := by decide +kernel
theorem dX0_setAt_50 : decode cX0_setAt 50 = .ok (.iadd, 1) := by decide +kernel
theorem dX0_setAt_51 : decode cX0_setAt 51 = .ok (.istore 9, 2) := by decide +kernel
theorem dX0_setAt_53 : decode cX0_setAt 53 = .ok (.iload 7, 2) := by decide +kernel
theorem dX0_setAt_55 : decode cX0_setAt 55 = .ok (.ifCond .lt 40, 3) := by decide +kernel
theorem dX0_setAt_58 : decode cX0_setAt 58 = .ok (.iload 7, 2) := by decide +kernel
theorem dX0_setAt_60 : decode cX0_setAt 60 = .ok (.aload_n 0, 1) := by decide +kernel
theorem dX0_setAt_61 : decode cX0_setAt 61 = .ok (.getfield 25, 3) := by decide +kernel
theorem dX0_setAt_64 : decode cX0_setAt 64 = .ok (.if_icmp .ge 31, 3) := by decide +kernel
theorem dX0_setAt_67 : decode cX0_setAt 67 = .ok (.iload 8, 2) := by decide +kernel
theorem dX0_setAt_69 : decode cX0_setAt 69 = .ok (.ifCond .lt 26, 3) := by decide +kernel
theorem dX0_setAt_72 : decode cX0_setAt 72 = .ok (.iload 8, 2) := by decide +kernel
theorem dX0_setAt_74 : decode cX0_setAt 74 = .ok (.aload_n 0, 1) := by decide +kernel
theorem dX0_setAt_75 : decode cX0_setAt 75 = .ok (.getfield 28, 3) := by decide +kernel
theorem dX0_setAt_78 : decode cX0_setAt 78 = .ok (.if_icmp .ge 17, 3) := by decide +kernel
theorem dX0_setAt_81 : decode cX0_setAt 81 = .ok (.iload 9, 2) := by decide +kernel
theorem dX0_setAt_83 : decode cX0_setAt 83 = .ok (.ifCond .lt 12, 3) := by decide +kernel
theorem dX0_setAt_86 : decode cX0_setAt 86 = .ok (.iload 9, 2) := by decide +kernel
theorem dX0_setAt_88 : decode cX0_setAt 88 = .ok (.aload_n 0, 1) := by decide +kernel
theorem dX0_setAt_89 : decode cX0_setAt 89 = .ok (.getfield 31, 3) := by decide +kernel
theorem dX0_setAt_92 : decode cX0_setAt 92 = .ok (.if_icmp .lt 5, 3) := by decide +kernel
theorem dX0_setAt_95 : decode cX0_setAt 95 = .ok (.iconst 0, 1) := by decide +kernel
theorem dX0_setAt_96 : decode cX0_setAt 96 = .ok (.ireturn, 1) := by decide +kernel
theorem dX0_setAt_97 : decode cX0_setAt 97 = .ok (.iload 5, 2) := by decide +kernel
theorem dX0_setAt_99 : decode cX0_setAt 99 = .ok (.iconst 1, 1) := by decide +kernel
theorem dX0_setAt_100 : decode cX0_setAt 100 = .ok (.iload 7, 2) := by decide +kernel
theorem dX0_setAt_102 : decode cX0_setAt 102 = .ok (.aload_n 0, 1) := by decide +kernel
theorem dX0_setAt_103 : decode cX0_setAt 103 = .ok (.getfield 25, 3) := by decide +kernel
theorem dX0_setAt_106 : decode cX0_setAt 106 = .ok (.iload 8, 2) := by decide +kernel
theorem dX0_setAt_108 : decode cX0_setAt 108 = .ok (.aload_n 0, 1) := by decide +kernel
theorem dX0_setAt_109 : decode cX0_setAt 109 = .ok (.getfield 28, 3) := by decide +kernel
theorem dX0_setAt_112 : decode cX0_setAt 112 = .ok (.iload 9, 2) := by decide +kernel
theorem dX0_setAt_114 : decode cX0_setAt 114 = .ok (.imul, 1) := by decide +kernel
theorem dX0_setAt_115 : decode cX0_setAt 115 = .ok (.iadd, 1) := by decide +kernel
theorem dX0_setAt_116 : decode cX0_setAt 116 = .ok (.imul, 1) := by decide +kernel
theorem dX0_setAt_117 : decode cX0_setAt 117 = .ok (.iadd, 1) := by decide +kernel
theorem dX0_setAt_118 : decode cX0_setAt 118 = .ok (.ishl, 1) := by decide +kernel
theorem dX0_setAt_119 : decode cX0_setAt 119 = .ok (.ior, 1) := by decide +kernel
theorem dX0_setAt_120 : decode cX0_setAt 120 = .ok (.istore 5, 2) := by decide +kernel
theorem dX0_setAt_122 : decode cX0_setAt 122 = .ok (.iinc 6 1, 3) := by decide +kernel
theorem dX0_setAt_125 : decode cX0_setAt 125 = .ok (.goto (-119), 3) := by decide +kernel
theorem dX0_setAt_128 : decode cX0_setAt 128 = .ok (.iload 5, 2) := by decide +kernel
theorem dX0_setAt_130 : decode cX0_setAt 130 = .ok (.ireturn, 1) := by decide +kernel
theorem dX0_keepSet_0 : decode cX0_keepSet 0 = .ok (.iconst 0, 1) := by decide +kernel
theorem dX0_keepSet_1 : decode cX0_keepSet 1 = .ok (.istore_n 3, 1) := by decide +kernel
theorem dX0_keepSet_2 : decode cX0_keepSet 2 = .ok (.iload_n 3, 1) := by decide +kernel
theorem dX0_keepSet_3 : decode cX0_keepSet 3 = .ok (.aload_n 0, 1) := by decide +kernel
theorem dX0_keepSet_4 : decode cX0_keepSet 4 = .ok (.getfield 34, 3) := by decide +kernel
theorem dX0_keepSet_7 : decode cX0_keepSet 7 = .ok (.if_icmp .ge 19, 3) := by decide +kernel
theorem dX0_keepSet_10 : decode cX0_keepSet 10 = .ok (.aload_n 0, 1) := by decide +kernel
theorem dX0_keepSet_11 : decode cX0_keepSet 11 = .ok (.getfield 9, 3) := by decide +kernel
theorem dX0_keepSet_14 : decode cX0_keepSet 14 = .ok (.iload_n 3, 1) := by decide +kernel
theorem dX0_keepSet_15 : decode cX0_keepSet 15 = .ok (.iaload, 1) := by decide +kernel
theorem dX0_keepSet_16 : decode cX0_keepSet 16 = .ok (.iload_n 1, 1) := by decide +kernel
theorem dX0_keepSet_17 : decode cX0_keepSet 17 = .ok (.if_icmp .ge 9, 3) := by decide +kernel
theorem dX0_keepSet_20 : decode cX0_keepSet 20 = .ok (.iinc 3 1, 3) := by decide +kernel
theorem dX0_keepSet_23 : decode cX0_keepSet 23 = .ok (.goto (-21), 3) := by decide +kernel
theorem dX0_keepSet_26 : decode cX0_keepSet 26 = .ok (.iload_n 3, 1) := by decide +kernel
theorem dX0_keepSet_27 : decode cX0_keepSet 27 = .ok (.aload_n 0, 1) := by decide +kernel
theorem dX0_keepSet_28 : decode cX0_keepSet 28 = .ok (.getfield 34, 3) := by decide +kernel
theorem dX0_keepSet_31 : decode cX0_keepSet 31 = .ok (.if_icmp .ge 14, 3) := by decide +kernel
theorem dX0_keepSet_34 : decode cX0_keepSet 34 = .ok (.aload_n 0, 1) := by decide +kernel
theorem dX0_keepSet_35 : decode cX0_keepSet 35 = .ok (.getfield 9, 3) := by decide +kernel
theorem dX0_keepSet_38 : decode cX0_keepSet 38 = .ok (.iload_n 3, 1) := by decide +kernel
theorem dX0_keepSet_39 : decode cX0_keepSet 39 = .ok (.iaload, 1) := by decide +kernel
theorem dX0_keepSet_40 : decode cX0_keepSet 40 = .ok (.iload_n 1, 1) := by decide +kernel
theorem dX0_keepSet_41 : decode cX0_keepSet 41 = .ok (.if_icmp .ne 4, 3) := by decide +kernel
theorem dX0_keepSet_44 : decode cX0_keepSet 44 = .ok (.return_, 1) := by decide +kernel
theorem dX0_keepSet_45 : decode cX0_keepSet 45 = .ok (.aload_n 0, 1) := by decide +kernel
theorem dX0_keepSet_46 : decode cX0_keepSet 46 = .ok (.getfield 34, 3) := by decide +kernel
theorem dX0_keepSet_49 : decode cX0_keepSet 49 = .ok (.iload_n 2, 1) := by decide +kernel
theorem dX0_keepSet_50 : decode cX0_keepSet 50 = .ok (.if_icmp .ge 12, 3) := by decide +kernel
theorem dX0_keepSet_53 : decode cX0_keepSet 53 = .ok (.aload_n 0, 1) := by decide +kernel
theorem dX0_keepSet_54 : decode cX0_keepSet 54 = .ok (.getfield 34, 3) := by decide +kernel
theorem dX0_keepSet_57 : decode cX0_keepSet 57 = .ok (.bipush 60, 2) := by decide +kernel
theorem dX0_keepSet_59 : decode cX0_keepSet 59 = .ok (.if_icmp .lt 9, 3) := by decide +kernel
theorem dX0_keepSet_62 : decode cX0_keepSet 62 = .ok (.aload_n 0, 1) := by decide +kernel
theorem dX0_keepSet_63 : decode cX0_keepSet 63 = .ok (.iconst 1, 1) := by decide +kernel
theorem dX0_keepSet_64 : decode cX0_keepSet 64 = .ok (.putfield 37, 3) := by decide +kernel
theorem dX0_keepSet_67 : decode cX0_keepSet 67 = .ok (.return_, 1) := by decide +kernel
theorem dX0_keepSet_68 : decode cX0_keepSet 68 = .ok (.aload_n 0, 1) := by decide +kernel
theorem dX0_keepSet_69 : decode cX0_keepSet 69 = .ok (.getfield 34, 3) := by decide +kernel
theorem dX0_keepSet_72 : decode cX0_keepSet 72 = .ok (.istore 4, 2) := by decide +kernel
theorem dX0_keepSet_74 : decode cX0_keepSet 74 = .ok (.iload 4, 2) := by decide +kernel
theorem dX0_keepSet_76 : decode cX0_keepSet 76 = .ok (.iload_n 3, 1) := by decide +kernel
theorem dX0_keepSet_77 : decode cX0_keepSet 77 = .ok (.if_icmp .le 25, 3) := by decide +kernel
theorem dX0_keepSet_80 : decode cX0_keepSet 80 = .ok (.aload_n 0, 1) := by decide +kernel
theorem dX0_keepSet_81 : decode cX0_keepSet 81 = .ok (.getfield 9, 3) := by decide +kernel
theorem dX0_keepSet_84 : decode cX0_keepSet 84 = .ok (.iload 4, 2) := by decide +kernel
theorem dX0_keepSet_86 : decode cX0_keepSet 86 = .ok (.aload_n 0, 1) := by decide +kernel
theorem dX0_keepSet_87 : decode cX0_keepSet 87 = .ok (.getfield 9, 3) := by decide +kernel
theorem dX0_keepSet_90 : decode cX0_keepSet 90 = .ok (.iload 4, 2) := by decide +kernel
theorem dX0_keepSet_92 : decode cX0_keepSet 92 = .ok (.iconst 1, 1) := by decide +kernel
theorem dX0_keepSet_93 : decode cX0_keepSet 93 = .ok (.isub, 1) := by decide +kernel
theorem dX0_keepSet_94 : decode cX0_keepSet 94 = .ok (.iaload, 1) := by decide +kernel
theorem dX0_keepSet_95 : decode cX0_keepSet 95 = .ok (.iastore, 1) := by decide +kernel
theorem dX0_keepSet_96 : decode cX0_keepSet 96 = .ok (.iinc 4 (-1), 3) := by decide +kernel
theorem dX0_keepSet_99 : decode cX0_keepSet 99 = .ok (.goto (-25), 3) := by decide +kernel
theorem dX0_keepSet_102 : decode cX0_keepSet 102 = .ok (.aload_n 0, 1) := by decide +kernel
theorem dX0_keepSet_103 : decode cX0_keepSet 103 = .ok (.getfield 9, 3) := by decide +kernel
theorem dX0_keepSet_106 : decode cX0_keepSet 106 = .ok (.iload_n 3, 1) := by decide +kernel
theorem dX0_keepSet_107 : decode cX0_keepSet 107 = .ok (.iload_n 1, 1) := by decide +kernel
theorem dX0_keepSet_108 : decode cX0_keepSet 108 = .ok (.iastore, 1) := by decide +kernel
theorem dX0_keepSet_109 : decode cX0_keepSet 109 = .ok (.aload_n 0, 1) := by decide +kernel
theorem dX0_keepSet_110 : decode cX0_keepSet 110 = .ok (.dup, 1) := by decide +kernel
theorem dX0_keepSet_111 : decode cX0_keepSet 111 = .ok (.getfield 34, 3) := by decide +kernel
theorem dX0_keepSet_114 : decode cX0_keepSet 114 = .ok (.iconst 1, 1) := by decide +kernel
theorem dX0_keepSet_115 : decode cX0_keepSet 115 = .ok (.iadd, 1) := by decide +kernel
theorem dX0_keepSet_116 : decode cX0_keepSet 116 = .ok (.putfield 34, 3) := by decide +kernel
theorem dX0_keepSet_119 : decode cX0_keepSet 119 = .ok (.return_, 1) := by decide +kernel
