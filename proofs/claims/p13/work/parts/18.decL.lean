theorem dL_cell_0 : decode cL_cell 0 = .ok (.iload_n 1, 1) := by decide +kernel
theorem dL_cell_1 : decode cL_cell 1 = .ok (.aload_n 0, 1) := by decide +kernel
theorem dL_cell_2 : decode cL_cell 2 = .ok (.arraylength, 1) := by decide +kernel
theorem dL_cell_3 : decode cL_cell 3 = .ok (.if_icmp .ge 9, 3) := by decide +kernel
theorem dL_cell_6 : decode cL_cell 6 = .ok (.aload_n 0, 1) := by decide +kernel
theorem dL_cell_7 : decode cL_cell 7 = .ok (.iload_n 1, 1) := by decide +kernel
theorem dL_cell_8 : decode cL_cell 8 = .ok (.iaload, 1) := by decide +kernel
theorem dL_cell_9 : decode cL_cell 9 = .ok (.goto 4, 3) := by decide +kernel
theorem dL_cell_12 : decode cL_cell 12 = .ok (.iconst 0, 1) := by decide +kernel
theorem dL_cell_13 : decode cL_cell 13 = .ok (.ireturn, 1) := by decide +kernel
set_option maxRecDepth 20000 in
theorem ggL_times_X4_times : GoodIn wsL_times wsX4_times := goodIn_r _ [5, 6, 7, 8, 9, 10, 11, 12, 4, 13, 14, 15, 16, 17, 18, 19, 20, 21, 22, 23, 24, 25, 26, 27, 28, 29, 30, 31, 32, 33, 34, 35, 36, 37, 38, 39, 40, 41, 42, 43, 44, 45, 46] (by decide +kernel) (by decide +kernel)
set_option maxRecDepth 20000 in
theorem gL_times_X4_times : GoodIn wsL_times (wsV RL 7 RX4 yX4_times wsX4_times) := goodIn_app (goodIn_r _ [1, 2, 3, 4] (by decide +kernel) (by decide +kernel)) ggL_times_X4_times
theorem dL_times_0 : decode cL_times 0 = .ok (.aload_n 3, 1) := by decide +kernel
theorem dL_times_1 : decode cL_times 1 = .ok (.iconst 0, 1) := by decide +kernel
theorem dL_times_2 : decode cL_times 2 = .ok (.aload_n 0, 1) := by decide +kernel
theorem dL_times_3 : decode cL_times 3 = .ok (.iload_n 1, 1) := by decide +kernel
theorem dL_times_4 : decode cL_times 4 = .ok (.iload_n 2, 1) := by decide +kernel
theorem dL_times_5 : decode cL_times 5 = .ok (.invokevirtual 7, 3) := by decide +kernel
theorem dL_times_8 : decode cL_times 8 = .ok (.ifCond .eq 7, 3) := by decide +kernel
theorem dL_times_11 : decode cL_times 11 = .ok (.lconst 1, 1) := by decide +kernel
theorem dL_times_12 : decode cL_times 12 = .ok (.goto 4, 3) := by decide +kernel
theorem dL_times_15 : decode cL_times 15 = .ok (.lconst 0, 1) := by decide +kernel
theorem dL_times_16 : decode cL_times 16 = .ok (.lastore, 1) := by decide +kernel
theorem dL_times_17 : decode cL_times 17 = .ok (.goto 7, 3) := by decide +kernel
theorem dL_times_20 : decode cL_times 20 = .ok (.astore 4, 2) := by decide +kernel
theorem dL_times_22 : decode cL_times 22 = .ok (.iconst 1, 1) := by decide +kernel
theorem dL_times_23 : decode cL_times 23 = .ok (.ireturn, 1) := by decide +kernel
theorem dL_times_24 : decode cL_times 24 = .ok (.iconst 0, 1) := by decide +kernel
theorem dL_times_25 : decode cL_times 25 = .ok (.ireturn, 1) := by decide +kernel
set_option maxRecDepth 20000 in
theorem ggL_entry_X4_entry : GoodIn wsL_entry wsX4_entry := goodIn_ca (goodIn_r _ [7, 8, 9, 10, 11, 12, 13, 14, 15, 6, 16, 17, 18, 19, 20, 21, 22, 23, 24, 25, 26, 27, 28, 29, 30, 31, 32, 33, 34, 35, 36, 37, 38, 39, 40, 41, 42, 43, 44, 45, 46, 47, 48, 49, 50, 51, 52, 53, 54, 55, 56, 57, 58, 59, 60, 61, 62, 63, 64, 65, 66, 67, 68, 69, 70, 71, 72, 73] (by decide +kernel) (by decide +kernel)) (goodIn_sub (fun _ h => List.mem_cons_of_mem _ (List.mem_append_right _ h)) (by decide +kernel))
set_option maxRecDepth 20000 in
theorem gL_entry_X4_entry : GoodIn wsL_entry (wsV RL 15 RX4 yX4_entry wsX4_entry) := goodIn_app (goodIn_r _ [3, 4, 5, 6] (by decide +kernel) (by decide +kernel)) ggL_entry_X4_entry
theorem dL_entry_0 : decode cL_entry 0 = .ok (.aload_n 3, 1) := by decide +kernel
theorem dL_entry_1 : decode cL_entry 1 = .ok (.iconst 0, 1) := by decide +kernel
theorem dL_entry_2 : decode cL_entry 2 = .ok (.aload_n 0, 1) := by decide +kernel
theorem dL_entry_3 : decode cL_entry 3 = .ok (.iload_n 1, 1) := by decide +kernel
theorem dL_entry_4 : decode cL_entry 4 = .ok (.iload_n 2, 1) := by decide +kernel
theorem dL_entry_5 : decode cL_entry 5 = .ok (.invokevirtual 15, 3) := by decide +kernel
theorem dL_entry_8 : decode cL_entry 8 = .ok (.ifCond .eq 7, 3) := by decide +kernel
theorem dL_entry_11 : decode cL_entry 11 = .ok (.lconst 1, 1) := by decide +kernel
theorem dL_entry_12 : decode cL_entry 12 = .ok (.goto 4, 3) := by decide +kernel
theorem dL_entry_15 : decode cL_entry 15 = .ok (.lconst 0, 1) := by decide +kernel
theorem dL_entry_16 : decode cL_entry 16 = .ok (.lastore, 1) := by decide +kernel
theorem dL_entry_17 : decode cL_entry 17 = .ok (.goto 11, 3) := by decide +kernel
theorem dL_entry_20 : decode cL_entry 20 = .ok (.astore 4, 2) := by decide +kernel
theorem dL_entry_22 : decode cL_entry 22 = .ok (.iconst 1, 1) := by decide +kernel
theorem dL_entry_23 : decode cL_entry 23 = .ok (.ireturn, 1) := by decide +kernel
theorem dL_entry_24 : decode cL_entry 24 = .ok (.astore 4, 2) := by decide +kernel
theorem dL_entry_26 : decode cL_entry 26 = .ok (.iconst 2, 1) := by decide +kernel
theorem dL_entry_27 : decode cL_entry 27 = .ok (.ireturn, 1) := by decide +kernel
theorem dL_entry_28 : decode cL_entry 28 = .ok (.iconst 0, 1) := by decide +kernel
theorem dL_entry_29 : decode cL_entry 29 = .ok (.ireturn, 1) := by decide +kernel
set_option maxRecDepth 20000 in
theorem ggL_lay_X4_lay : GoodIn wsL_lay wsX4_lay := goodIn_ca (goodIn_r _ [7, 8, 9, 10, 11, 12, 13, 14, 15, 6, 16, 17, 18, 19, 20, 21, 22, 23, 24, 25, 26, 27, 28, 29, 30, 31, 32, 33, 34, 35, 36, 37, 38, 39, 40, 41, 42, 43, 44, 45, 46, 47, 48, 49, 50, 51, 52, 53, 54, 55, 56, 57, 58, 59, 60, 61, 62, 63, 64, 65, 66, 67, 68, 69, 70, 71, 72, 73, 74, 75, 76, 77, 78, 79, 80, 81, 82, 83, 84, 85, 86, 87, 88, 89, 90, 91, 92, 93, 94, 95, 96, 97, 98, 99, 100, 101, 102, 103, 104, 105, 106, 107, 108, 109, 110, 111, 112, 113, 114, 115, 116, 117, 118, 119, 120, 121, 122, 123, 124, 125, 126, 127, 128, 129, 130, 131, 132, 133, 134, 135, 136, 137, 138, 139, 140, 141, 142, 143, 144, 145, 146, 147, 148, 149, 150, 151, 152] (by decide +kernel) (by decide +kernel)) (goodIn_sub (fun _ h => List.mem_cons_of_mem _ (List.mem_append_right _ h)) (by decide +kernel))
set_option maxRecDepth 20000 in
theorem gL_lay_X4_lay : GoodIn wsL_lay (wsV RL 20 RX4 yX4_lay wsX4_lay) := goodIn_app (goodIn_r _ [3, 4, 5, 6] (by decide +kernel) (by decide +kernel)) ggL_lay_X4_lay
theorem dL_lay_0 : decode cL_lay 0 = .ok (.aload 6, 2) := by decide +kernel
theorem dL_lay_2 : decode cL_lay 2 = .ok (.iconst 0, 1) := by decide +kernel
theorem dL_lay_3 : decode cL_lay 3 = .ok (.aload_n 0, 1) := by decide +kernel
theorem dL_lay_4 : decode cL_lay 4 = .ok (.iload_n 1, 1) := by decide +kernel
theorem dL_lay_5 : decode cL_lay 5 = .ok (.iload_n 2, 1) := by decide +kernel
theorem dL_lay_6 : decode cL_lay 6 = .ok (.iload_n 3, 1) := by decide +kernel
theorem dL_lay_7 : decode cL_lay 7 = .ok (.iload 4, 2) := by decide +kernel
theorem dL_lay_9 : decode cL_lay 9 = .ok (.iload 5, 2) := by decide +kernel
theorem dL_lay_11 : decode cL_lay 11 = .ok (.invokevirtual 20, 3) := by decide +kernel
theorem dL_lay_14 : decode cL_lay 14 = .ok (.i2l, 1) := by decide +kernel
theorem dL_lay_15 : decode cL_lay 15 = .ok (.lastore, 1) := by decide +kernel
theorem dL_lay_16 : decode cL_lay 16 = .ok (.goto 11, 3) := by decide +kernel
theorem dL_lay_19 : decode cL_lay 19 = .ok (.astore 7, 2) := by decide +kernel
theorem dL_lay_21 : decode cL_lay 21 = .ok (.iconst 1, 1) := by decide +kernel
theorem dL_lay_22 : decode cL_lay 22 = .ok (.ireturn, 1) := by decide +kernel
theorem dL_lay_23 : decode cL_lay 23 = .ok (.astore 7, 2) := by decide +kernel
theorem dL_lay_25 : decode cL_lay 25 = .ok (.iconst 2, 1) := by decide +kernel
theorem dL_lay_26 : decode cL_lay 26 = .ok (.ireturn, 1) := by decide +kernel
theorem dL_lay_27 : decode cL_lay 27 = .ok (.iconst 0, 1) := by decide +kernel
theorem dL_lay_28 : decode cL_lay 28 = .ok (.ireturn, 1) := by decide +kernel
set_option maxRecDepth 20000 in
theorem ggL_take_X4_take : GoodIn wsL_take wsX4_take := goodIn_r _ [5, 6, 7, 8, 9, 10, 11, 12, 13, 4, 14, 15, 16, 17, 18, 19, 20, 21, 22, 23, 24, 25, 26, 27, 28, 29, 30, 31, 32, 33, 34, 35, 36, 37, 38, 39, 40, 41, 42, 43, 44, 45, 46, 47, 48, 49, 50, 51, 52, 53, 54, 55, 56, 57, 58, 59, 60, 61, 62, 63, 64, 65, 66, 67, 68, 69, 70, 71, 72] (by decide +kernel) (by decide +kernel)
set_option maxRecDepth 20000 in
theorem gL_take_X4_take : GoodIn wsL_take (wsV RL 24 RX4 yX4_take wsX4_take) := goodIn_app (goodIn_r _ [1, 2, 3, 4] (by decide +kernel) (by decide +kernel)) ggL_take_X4_take
theorem dL_take_0 : decode cL_take 0 = .ok (.aload_n 2, 1) := by decide +kernel
theorem dL_take_1 : decode cL_take 1 = .ok (.iconst 0, 1) := by decide +kernel
theorem dL_take_2 : decode cL_take 2 = .ok (.aload_n 0, 1) := by decide +kernel
theorem dL_take_3 : decode cL_take 3 = .ok (.iload_n 1, 1) := by decide +kernel
theorem dL_take_4 : decode cL_take 4 = .ok (.invokevirtual 24, 3) := by decide +kernel
theorem dL_take_7 : decode cL_take 7 = .ok (.ifCond .eq 7, 3) := by decide +kernel
theorem dL_take_10 : decode cL_take 10 = .ok (.lconst 1, 1) := by decide +kernel
theorem dL_take_11 : decode cL_take 11 = .ok (.goto 4, 3) := by decide +kernel
theorem dL_take_14 : decode cL_take 14 = .ok (.lconst 0, 1) := by decide +kernel
theorem dL_take_15 : decode cL_take 15 = .ok (.lastore, 1) := by decide +kernel
theorem dL_take_16 : decode cL_take 16 = .ok (.goto 6, 3) := by decide +kernel
theorem dL_take_19 : decode cL_take 19 = .ok (.astore_n 3, 1) := by decide +kernel
theorem dL_take_20 : decode cL_take 20 = .ok (.iconst 1, 1) := by decide +kernel
theorem dL_take_21 : decode cL_take 21 = .ok (.ireturn, 1) := by decide +kernel
theorem dL_take_22 : decode cL_take 22 = .ok (.iconst 0, 1) := by decide +kernel
theorem dL_take_23 : decode cL_take 23 = .ok (.ireturn, 1) := by decide +kernel
set_option maxRecDepth 20000 in
theorem ggL_open_X4_open : GoodIn wsL_open wsX4_open := goodIn_r _ [5, 6, 7, 8, 9, 10, 11, 4, 12, 13, 14, 15, 16, 17, 18, 19, 20, 21, 22, 23, 24, 25, 26, 27, 28, 29, 30, 31, 32, 33, 34, 35, 36, 37, 38, 39, 40, 41, 42, 43, 44, 45, 46, 47, 48, 49, 50, 51, 52, 53, 54, 55, 56, 57, 58, 59, 60, 61, 62, 63, 64, 65, 66, 67, 68, 69, 70, 71] (by decide +kernel) (by decide +kernel)
set_option maxRecDepth 20000 in
theorem gL_open_X4_open : GoodIn wsL_open (wsV RL 28 RX4 yX4_open wsX4_open) := goodIn_app (goodIn_r _ [1, 2, 3, 4] (by decide +kernel) (by decide +kernel)) ggL_open_X4_open
theorem dL_open_0 : decode cL_open 0 = .ok (.aload_n 2, 1) := by decide +kernel
theorem dL_open_1 : decode cL_open 1 = .ok (.iconst 0, 1) := by decide +kernel
theorem dL_open_2 : decode cL_open 2 = .ok (.aload_n 0, 1) := by decide +kernel
theorem dL_open_3 : decode cL_open 3 = .ok (.iload_n 1, 1) := by decide +kernel
theorem dL_open_4 : decode cL_open 4 = .ok (.invokevirtual 28, 3) := by decide +kernel
theorem dL_open_7 : decode cL_open 7 = .ok (.i2l, 1) := by decide +kernel
theorem dL_open_8 : decode cL_open 8 = .ok (.lastore, 1) := by decide +kernel
theorem dL_open_9 : decode cL_open 9 = .ok (.goto 6, 3) := by decide +kernel
theorem dL_open_12 : decode cL_open 12 = .ok (.astore_n 3, 1) := by decide +kernel
theorem dL_open_13 : decode cL_open 13 = .ok (.iconst 1, 1) := by decide +kernel
theorem dL_open_14 : decode cL_open 14 = .ok (.ireturn, 1) := by decide +kernel
theorem dL_open_15 : decode cL_open 15 = .ok (.iconst 0, 1) := by decide +kernel
theorem dL_open_16 : decode cL_open 16 = .ok (.ireturn, 1) := by decide +kernel
set_option maxRecDepth 20000 in
theorem ggL_exchange_X4_exchange : GoodIn wsL_exchange wsX4_exchange := goodIn_r _ [5, 6, 7, 8, 9, 10, 11, 12, 13, 4, 14, 15, 16, 17, 18, 19, 20, 21, 22, 23, 24, 25, 26, 27, 28, 29, 30, 31, 32, 33, 34, 35, 36, 37, 38, 39, 40, 41, 42, 43, 44, 45, 46, 47, 48, 49, 50] (by decide +kernel) (by decide +kernel)
set_option maxRecDepth 20000 in
theorem gL_exchange_X4_exchange : GoodIn wsL_exchange (wsV RL 32 RX4 yX4_exchange wsX4_exchange) := goodIn_app (goodIn_r _ [1, 2, 3, 4] (by decide +kernel) (by decide +kernel)) ggL_exchange_X4_exchange
theorem dL_exchange_0 : decode cL_exchange 0 = .ok (.aload 4, 2) := by decide +kernel
theorem dL_exchange_2 : decode cL_exchange 2 = .ok (.iconst 0, 1) := by decide +kernel
theorem dL_exchange_3 : decode cL_exchange 3 = .ok (.aload_n 0, 1) := by decide +kernel
theorem dL_exchange_4 : decode cL_exchange 4 = .ok (.iload_n 1, 1) := by decide +kernel
theorem dL_exchange_5 : decode cL_exchange 5 = .ok (.iload_n 2, 1) := by decide +kernel
theorem dL_exchange_6 : decode cL_exchange 6 = .ok (.iload_n 3, 1) := by decide +kernel
theorem dL_exchange_7 : decode cL_exchange 7 = .ok (.invokevirtual 32, 3) := by decide +kernel
theorem dL_exchange_10 : decode cL_exchange 10 = .ok (.ifCond .eq 7, 3) := by decide +kernel
theorem dL_exchange_13 : decode cL_exchange 13 = .ok (.lconst 1, 1) := by decide +kernel
theorem dL_exchange_14 : decode cL_exchange 14 = .ok (.goto 4, 3) := by decide +kernel
theorem dL_exchange_17 : decode cL_exchange 17 = .ok (.lconst 0, 1) := by decide +kernel
theorem dL_exchange_18 : decode cL_exchange 18 = .ok (.lastore, 1) := by decide +kernel
theorem dL_exchange_19 : decode cL_exchange 19 = .ok (.goto 7, 3) := by decide +kernel
theorem dL_exchange_22 : decode cL_exchange 22 = .ok (.astore 5, 2) := by decide +kernel
theorem dL_exchange_24 : decode cL_exchange 24 = .ok (.iconst 1, 1) := by decide +kernel
theorem dL_exchange_25 : decode cL_exchange 25 = .ok (.ireturn, 1) := by decide +kernel
theorem dL_exchange_26 : decode cL_exchange 26 = .ok (.iconst 0, 1) := by decide +kernel
theorem dL_exchange_27 : decode cL_exchange 27 = .ok (.ireturn, 1) := by decide +kernel
set_option maxRecDepth 20000 in
theorem ggL_tell_X4_tell : GoodIn wsL_tell wsX4_tell := goodIn_r _ [5, 6, 7, 8, 9, 10, 4, 11, 12, 13, 14, 15, 16, 17, 18, 19, 20, 21, 22, 23, 24, 25, 26, 27, 28, 29, 30, 31, 32, 33, 34, 35, 36, 37, 38, 39, 40, 41, 42, 43, 44, 45, 46, 47, 48] (by decide +kernel) (by decide +kernel)
set_option maxRecDepth 20000 in
theorem gL_tell_X4_tell : GoodIn wsL_tell (wsV RL 36 RX4 yX4_tell wsX4_tell) := goodIn_app (goodIn_r _ [1, 2, 3, 4] (by decide +kernel) (by decide +kernel)) ggL_tell_X4_tell
theorem dL_tell_0 : decode cL_tell 0 = .ok (.aload_n 3, 1) := by decide +kernel
theorem dL_tell_1 : decode cL_tell 1 = .ok (.iconst 0, 1) := by decide +kernel
theorem dL_tell_2 : decode cL_tell 2 = .ok (.aload_n 0, 1) := by decide +kernel
theorem dL_tell_3 : decode cL_tell 3 = .ok (.iload_n 1, 1) := by decide +kernel
theorem dL_tell_4 : decode cL_tell 4 = .ok (.iload_n 2, 1) := by decide +kernel
theorem dL_tell_5 : decode cL_tell 5 = .ok (.invokevirtual 36, 3) := by decide +kernel
theorem dL_tell_8 : decode cL_tell 8 = .ok (.i2l, 1) := by decide +kernel
theorem dL_tell_9 : decode cL_tell 9 = .ok (.lastore, 1) := by decide +kernel
theorem dL_tell_10 : decode cL_tell 10 = .ok (.goto 7, 3) := by decide +kernel
theorem dL_tell_13 : decode cL_tell 13 = .ok (.astore 4, 2) := by decide +kernel
theorem dL_tell_15 : decode cL_tell 15 = .ok (.iconst 1, 1) := by decide +kernel
theorem dL_tell_16 : decode cL_tell 16 = .ok (.ireturn, 1) := by decide +kernel
theorem dL_tell_17 : decode cL_tell 17 = .ok (.iconst 0, 1) := by decide +kernel
theorem dL_tell_18 : decode cL_tell 18 = .ok (.ireturn, 1) := by decide +kernel
