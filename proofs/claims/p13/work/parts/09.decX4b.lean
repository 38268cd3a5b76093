set_option maxRecDepth 20000 in
theorem ggX4_tell_X4_memberAt : GoodIn wsX4_tell wsX4_memberAt := goodIn_r _ [21] (by decide +kernel) (by decide +kernel)
set_option maxRecDepth 20000 in
theorem gX4_tell_X4_memberAt : GoodIn wsX4_tell (va_wsS RX4 165 yX4_memberAt wsX4_memberAt) := goodIn_app (goodIn_r _ [19, 20, 6] (by decide +kernel) (by decide +kernel)) ggX4_tell_X4_memberAt
theorem dX4_tell_0 : decode cX4_tell 0 = .ok (.aload_n 0, 1) := by decide +kernel
theorem dX4_tell_1 : decode cX4_tell 1 = .ok (.iload_n 1, 1) := by decide +kernel
theorem dX4_tell_2 : decode cX4_tell 2 = .ok (.invokevirtual 128, 3) := by decide +kernel
theorem dX4_tell_5 : decode cX4_tell 5 = .ok (.aload_n 0, 1) := by decide +kernel
theorem dX4_tell_6 : decode cX4_tell 6 = .ok (.getfield 27, 3) := by decide +kernel
theorem dX4_tell_9 : decode cX4_tell 9 = .ok (.getfield 192, 3) := by decide +kernel
theorem dX4_tell_12 : decode cX4_tell 12 = .ok (.iload_n 1, 1) := by decide +kernel
theorem dX4_tell_13 : decode cX4_tell 13 = .ok (.iaload, 1) := by decide +kernel
theorem dX4_tell_14 : decode cX4_tell 14 = .ok (.istore_n 3, 1) := by decide +kernel
theorem dX4_tell_15 : decode cX4_tell 15 = .ok (.iload_n 2, 1) := by decide +kernel
theorem dX4_tell_16 : decode cX4_tell 16 = .ok (.ifCond .ne 10, 3) := by decide +kernel
theorem dX4_tell_19 : decode cX4_tell 19 = .ok (.iload_n 3, 1) := by decide +kernel
theorem dX4_tell_20 : decode cX4_tell 20 = .ok (.invokestatic 195, 3) := by decide +kernel
theorem dX4_tell_23 : decode cX4_tell 23 = .ok (.goto 11, 3) := by decide +kernel
theorem dX4_tell_26 : decode cX4_tell 26 = .ok (.iload_n 3, 1) := by decide +kernel
theorem dX4_tell_27 : decode cX4_tell 27 = .ok (.i2l, 1) := by decide +kernel
theorem dX4_tell_28 : decode cX4_tell 28 = .ok (.iload_n 2, 1) := by decide +kernel
theorem dX4_tell_29 : decode cX4_tell 29 = .ok (.iconst 1, 1) := by decide +kernel
theorem dX4_tell_30 : decode cX4_tell 30 = .ok (.isub, 1) := by decide +kernel
theorem dX4_tell_31 : decode cX4_tell 31 = .ok (.invokestatic 165, 3) := by decide +kernel
theorem dX4_tell_34 : decode cX4_tell 34 = .ok (.ireturn, 1) := by decide +kernel
theorem dX4_requireColumn_0 : decode cX4_requireColumn 0 = .ok (.iload_n 1, 1) := by decide +kernel
theorem dX4_requireColumn_1 : decode cX4_requireColumn 1 = .ok (.ifCond .lt 14, 3) := by decide +kernel
theorem dX4_requireColumn_4 : decode cX4_requireColumn 4 = .ok (.iload_n 1, 1) := by decide +kernel
theorem dX4_requireColumn_5 : decode cX4_requireColumn 5 = .ok (.aload_n 0, 1) := by decide +kernel
theorem dX4_requireColumn_6 : decode cX4_requireColumn 6 = .ok (.getfield 27, 3) := by decide +kernel
theorem dX4_requireColumn_9 : decode cX4_requireColumn 9 = .ok (.getfield 200, 3) := by decide +kernel
theorem dX4_requireColumn_12 : decode cX4_requireColumn 12 = .ok (.if_icmp .lt 13, 3) := by decide +kernel
theorem dX4_requireColumn_15 : decode cX4_requireColumn 15 = .ok (.new 174, 3) := by decide +kernel
theorem dX4_requireColumn_18 : decode cX4_requireColumn 18 = .ok (.dup, 1) := by decide +kernel
theorem dX4_requireColumn_19 : decode cX4_requireColumn 19 = .ok (.ldc 203, 2) := by decide +kernel
theorem dX4_requireColumn_21 : decode cX4_requireColumn 21 = .ok (.invokespecial 178, 3) := by decide +kernel
theorem dX4_requireColumn_24 : decode cX4_requireColumn 24 = .ok (.athrow, 1) := by decide +kernel
theorem dX4_requireColumn_25 : decode cX4_requireColumn 25 = .ok (.return_, 1) := by decide +kernel
theorem dX4_requireRow_0 : decode cX4_requireRow 0 = .ok (.iload_n 1, 1) := by decide +kernel
theorem dX4_requireRow_1 : decode cX4_requireRow 1 = .ok (.ifCond .lt 14, 3) := by decide +kernel
theorem dX4_requireRow_4 : decode cX4_requireRow 4 = .ok (.iload_n 1, 1) := by decide +kernel
theorem dX4_requireRow_5 : decode cX4_requireRow 5 = .ok (.aload_n 0, 1) := by decide +kernel
theorem dX4_requireRow_6 : decode cX4_requireRow 6 = .ok (.getfield 27, 3) := by decide +kernel
theorem dX4_requireRow_9 : decode cX4_requireRow 9 = .ok (.getfield 205, 3) := by decide +kernel
theorem dX4_requireRow_12 : decode cX4_requireRow 12 = .ok (.if_icmp .lt 13, 3) := by decide +kernel
theorem dX4_requireRow_15 : decode cX4_requireRow 15 = .ok (.new 174, 3) := by decide +kernel
theorem dX4_requireRow_18 : decode cX4_requireRow 18 = .ok (.dup, 1) := by decide +kernel
theorem dX4_requireRow_19 : decode cX4_requireRow 19 = .ok (.ldc 208, 2) := by decide +kernel
theorem dX4_requireRow_21 : decode cX4_requireRow 21 = .ok (.invokespecial 178, 3) := by decide +kernel
theorem dX4_requireRow_24 : decode cX4_requireRow 24 = .ok (.athrow, 1) := by decide +kernel
theorem dX4_requireRow_25 : decode cX4_requireRow 25 = .ok (.return_, 1) := by decide +kernel
theorem dX4_memberAt_0 : decode cX4_memberAt 0 = .ok (.iconst 0, 1) := by decide +kernel
theorem dX4_memberAt_1 : decode cX4_memberAt 1 = .ok (.istore_n 3, 1) := by decide +kernel
theorem dX4_memberAt_2 : decode cX4_memberAt 2 = .ok (.iconst 0, 1) := by decide +kernel
theorem dX4_memberAt_3 : decode cX4_memberAt 3 = .ok (.istore 4, 2) := by decide +kernel
theorem dX4_memberAt_5 : decode cX4_memberAt 5 = .ok (.iload 4, 2) := by decide +kernel
theorem dX4_memberAt_7 : decode cX4_memberAt 7 = .ok (.bipush 60, 2) := by decide +kernel
theorem dX4_memberAt_9 : decode cX4_memberAt 9 = .ok (.if_icmp .ge 31, 3) := by decide +kernel
theorem dX4_memberAt_12 : decode cX4_memberAt 12 = .ok (.lload_n 0, 1) := by decide +kernel
theorem dX4_memberAt_13 : decode cX4_memberAt 13 = .ok (.iload 4, 2) := by decide +kernel
theorem dX4_memberAt_15 : decode cX4_memberAt 15 = .ok (.lshr, 1) := by decide +kernel
theorem dX4_memberAt_16 : decode cX4_memberAt 16 = .ok (.lconst 1, 1) := by decide +kernel
theorem dX4_memberAt_17 : decode cX4_memberAt 17 = .ok (.land, 1) := by decide +kernel
theorem dX4_memberAt_18 : decode cX4_memberAt 18 = .ok (.lconst 0, 1) := by decide +kernel
theorem dX4_memberAt_19 : decode cX4_memberAt 19 = .ok (.lcmp, 1) := by decide +kernel
theorem dX4_memberAt_20 : decode cX4_memberAt 20 = .ok (.ifCond .eq 14, 3) := by decide +kernel
theorem dX4_memberAt_23 : decode cX4_memberAt 23 = .ok (.iload_n 3, 1) := by decide +kernel
theorem dX4_memberAt_24 : decode cX4_memberAt 24 = .ok (.iload_n 2, 1) := by decide +kernel
theorem dX4_memberAt_25 : decode cX4_memberAt 25 = .ok (.if_icmp .ne 6, 3) := by decide +kernel
theorem dX4_memberAt_28 : decode cX4_memberAt 28 = .ok (.iload 4, 2) := by decide +kernel
theorem dX4_memberAt_30 : decode cX4_memberAt 30 = .ok (.ireturn, 1) := by decide +kernel
theorem dX4_memberAt_31 : decode cX4_memberAt 31 = .ok (.iinc 3 1, 3) := by decide +kernel
theorem dX4_memberAt_34 : decode cX4_memberAt 34 = .ok (.iinc 4 1, 3) := by decide +kernel
theorem dX4_memberAt_37 : decode cX4_memberAt 37 = .ok (.goto (-32), 3) := by decide +kernel
theorem dX4_memberAt_40 : decode cX4_memberAt 40 = .ok (.iconst (-1), 1) := by decide +kernel
theorem dX4_memberAt_41 : decode cX4_memberAt 41 = .ok (.ireturn, 1) := by decide +kernel
