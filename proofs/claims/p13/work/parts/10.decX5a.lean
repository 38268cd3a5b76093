theorem dX5_init_0 : decode cX5_init 0 = .ok (.aload_n 0, 1) := by decide +kernel
theorem dX5_init_1 : decode cX5_init 1 = .ok (.invokespecial 1, 3) := by decide +kernel
theorem dX5_init_4 : decode cX5_init 4 = .ok (.aload_n 0, 1) := by decide +kernel
theorem dX5_init_5 : decode cX5_init 5 = .ok (.bipush 24, 2) := by decide +kernel
theorem dX5_init_7 : decode cX5_init 7 = .ok (.newarray .int, 2) := by decide +kernel
theorem dX5_init_9 : decode cX5_init 9 = .ok (.putfield 7, 3) := by decide +kernel
theorem dX5_init_12 : decode cX5_init 12 = .ok (.aload_n 0, 1) := by decide +kernel
theorem dX5_init_13 : decode cX5_init 13 = .ok (.bipush 60, 2) := by decide +kernel
theorem dX5_init_15 : decode cX5_init 15 = .ok (.newarray .int, 2) := by decide +kernel
theorem dX5_init_17 : decode cX5_init 17 = .ok (.putfield 13, 3) := by decide +kernel
theorem dX5_init_20 : decode cX5_init 20 = .ok (.aload_n 0, 1) := by decide +kernel
theorem dX5_init_21 : decode cX5_init 21 = .ok (.sipush 1440, 3) := by decide +kernel
theorem dX5_init_24 : decode cX5_init 24 = .ok (.newarray .int, 2) := by decide +kernel
theorem dX5_init_26 : decode cX5_init 26 = .ok (.putfield 16, 3) := by decide +kernel
theorem dX5_init_29 : decode cX5_init 29 = .ok (.aload_n 0, 1) := by decide +kernel
theorem dX5_init_30 : decode cX5_init 30 = .ok (.bipush 7, 2) := by decide +kernel
theorem dX5_init_32 : decode cX5_init 32 = .ok (.newarray .int, 2) := by decide +kernel
theorem dX5_init_34 : decode cX5_init 34 = .ok (.putfield 19, 3) := by decide +kernel
theorem dX5_init_37 : decode cX5_init 37 = .ok (.aload_n 0, 1) := by decide +kernel
theorem dX5_init_38 : decode cX5_init 38 = .ok (.bipush 60, 2) := by decide +kernel
theorem dX5_init_40 : decode cX5_init 40 = .ok (.newarray .int, 2) := by decide +kernel
theorem dX5_init_42 : decode cX5_init 42 = .ok (.putfield 22, 3) := by decide +kernel
theorem dX5_init_45 : decode cX5_init 45 = .ok (.aload_n 0, 1) := by decide +kernel
theorem dX5_init_46 : decode cX5_init 46 = .ok (.bipush 60, 2) := by decide +kernel
theorem dX5_init_48 : decode cX5_init 48 = .ok (.newarray .int, 2) := by decide +kernel
theorem dX5_init_50 : decode cX5_init 50 = .ok (.putfield 25, 3) := by decide +kernel
theorem dX5_init_53 : decode cX5_init 53 = .ok (.aload_n 0, 1) := by decide +kernel
theorem dX5_init_54 : decode cX5_init 54 = .ok (.bipush 73, 2) := by decide +kernel
theorem dX5_init_56 : decode cX5_init 56 = .ok (.newarray .int, 2) := by decide +kernel
theorem dX5_init_58 : decode cX5_init 58 = .ok (.putfield 28, 3) := by decide +kernel
theorem dX5_init_61 : decode cX5_init 61 = .ok (.aload_n 0, 1) := by decide +kernel
theorem dX5_init_62 : decode cX5_init 62 = .ok (.bipush 60, 2) := by decide +kernel
theorem dX5_init_64 : decode cX5_init 64 = .ok (.newarray .boolean, 2) := by decide +kernel
theorem dX5_init_66 : decode cX5_init 66 = .ok (.putfield 31, 3) := by decide +kernel
theorem dX5_init_69 : decode cX5_init 69 = .ok (.aload_n 0, 1) := by decide +kernel
theorem dX5_init_70 : decode cX5_init 70 = .ok (.bipush 73, 2) := by decide +kernel
theorem dX5_init_72 : decode cX5_init 72 = .ok (.newarray .int, 2) := by decide +kernel
theorem dX5_init_74 : decode cX5_init 74 = .ok (.putfield 35, 3) := by decide +kernel
theorem dX5_init_77 : decode cX5_init 77 = .ok (.aload_n 0, 1) := by decide +kernel
theorem dX5_init_78 : decode cX5_init 78 = .ok (.bipush 73, 2) := by decide +kernel
theorem dX5_init_80 : decode cX5_init 80 = .ok (.newarray .int, 2) := by decide +kernel
theorem dX5_init_82 : decode cX5_init 82 = .ok (.putfield 38, 3) := by decide +kernel
theorem dX5_init_85 : decode cX5_init 85 = .ok (.aload_n 0, 1) := by decide +kernel
theorem dX5_init_86 : decode cX5_init 86 = .ok (.bipush 60, 2) := by decide +kernel
theorem dX5_init_88 : decode cX5_init 88 = .ok (.newarray .int, 2) := by decide +kernel
theorem dX5_init_90 : decode cX5_init 90 = .ok (.putfield 41, 3) := by decide +kernel
theorem dX5_init_93 : decode cX5_init 93 = .ok (.aload_n 0, 1) := by decide +kernel
theorem dX5_init_94 : decode cX5_init 94 = .ok (.bipush 100, 2) := by decide +kernel
theorem dX5_init_96 : decode cX5_init 96 = .ok (.newarray .long, 2) := by decide +kernel
theorem dX5_init_98 : decode cX5_init 98 = .ok (.putfield 44, 3) := by decide +kernel
theorem dX5_init_101 : decode cX5_init 101 = .ok (.aload_n 0, 1) := by decide +kernel
theorem dX5_init_102 : decode cX5_init 102 = .ok (.bipush 100, 2) := by decide +kernel
theorem dX5_init_104 : decode cX5_init 104 = .ok (.newarray .long, 2) := by decide +kernel
theorem dX5_init_106 : decode cX5_init 106 = .ok (.putfield 48, 3) := by decide +kernel
theorem dX5_init_109 : decode cX5_init 109 = .ok (.aload_n 0, 1) := by decide +kernel
theorem dX5_init_110 : decode cX5_init 110 = .ok (.sipush 192, 3) := by decide +kernel
theorem dX5_init_113 : decode cX5_init 113 = .ok (.newarray .int, 2) := by decide +kernel
theorem dX5_init_115 : decode cX5_init 115 = .ok (.putfield 51, 3) := by decide +kernel
theorem dX5_init_118 : decode cX5_init 118 = .ok (.aload_n 0, 1) := by decide +kernel
theorem dX5_init_119 : decode cX5_init 119 = .ok (.sipush 480, 3) := by decide +kernel
theorem dX5_init_122 : decode cX5_init 122 = .ok (.newarray .int, 2) := by decide +kernel
theorem dX5_init_124 : decode cX5_init 124 = .ok (.putfield 54, 3) := by decide +kernel
theorem dX5_init_127 : decode cX5_init 127 = .ok (.aload_n 0, 1) := by decide +kernel
theorem dX5_init_128 : decode cX5_init 128 = .ok (.bipush 100, 2) := by decide +kernel
theorem dX5_init_130 : decode cX5_init 130 = .ok (.newarray .int, 2) := by decide +kernel
theorem dX5_init_132 : decode cX5_init 132 = .ok (.putfield 57, 3) := by decide +kernel
theorem dX5_init_135 : decode cX5_init 135 = .ok (.aload_n 0, 1) := by decide +kernel
theorem dX5_init_136 : decode cX5_init 136 = .ok (.bipush 24, 2) := by decide +kernel
theorem dX5_init_138 : decode cX5_init 138 = .ok (.newarray .int, 2) := by decide +kernel
theorem dX5_init_140 : decode cX5_init 140 = .ok (.putfield 60, 3) := by decide +kernel
theorem dX5_init_143 : decode cX5_init 143 = .ok (.aload_n 0, 1) := by decide +kernel
theorem dX5_init_144 : decode cX5_init 144 = .ok (.bipush 24, 2) := by decide +kernel
theorem dX5_init_146 : decode cX5_init 146 = .ok (.newarray .int, 2) := by decide +kernel
theorem dX5_init_148 : decode cX5_init 148 = .ok (.putfield 63, 3) := by decide +kernel
theorem dX5_init_151 : decode cX5_init 151 = .ok (.aload_n 0, 1) := by decide +kernel
theorem dX5_init_152 : decode cX5_init 152 = .ok (.iload_n 1, 1) := by decide +kernel
theorem dX5_init_153 : decode cX5_init 153 = .ok (.iconst 1, 1) := by decide +kernel
theorem dX5_init_154 : decode cX5_init 154 = .ok (.if_icmp .ge 7, 3) := by decide +kernel
theorem dX5_init_157 : decode cX5_init 157 = .ok (.iconst 1, 1) := by decide +kernel
theorem dX5_init_158 : decode cX5_init 158 = .ok (.goto 15, 3) := by decide +kernel
theorem dX5_init_161 : decode cX5_init 161 = .ok (.iload_n 1, 1) := by decide +kernel
theorem dX5_init_162 : decode cX5_init 162 = .ok (.bipush 24, 2) := by decide +kernel
theorem dX5_init_164 : decode cX5_init 164 = .ok (.if_icmp .le 8, 3) := by decide +kernel
theorem dX5_init_167 : decode cX5_init 167 = .ok (.bipush 24, 2) := by decide +kernel
theorem dX5_init_169 : decode cX5_init 169 = .ok (.goto 4, 3) := by decide +kernel
theorem dX5_init_172 : decode cX5_init 172 = .ok (.iload_n 1, 1) := by decide +kernel
theorem dX5_init_173 : decode cX5_init 173 = .ok (.putfield 66, 3) := by decide +kernel
theorem dX5_init_176 : decode cX5_init 176 = .ok (.aload_n 0, 1) := by decide +kernel
theorem dX5_init_177 : decode cX5_init 177 = .ok (.aload_n 0, 1) := by decide +kernel
theorem dX5_init_178 : decode cX5_init 178 = .ok (.getfield 66, 3) := by decide +kernel
theorem dX5_init_181 : decode cX5_init 181 = .ok (.iload_n 2, 1) := by decide +kernel
theorem dX5_init_182 : decode cX5_init 182 = .ok (.ifCond .ge 7, 3) := by decide +kernel
theorem dX5_init_185 : decode cX5_init 185 = .ok (.iconst 0, 1) := by decide +kernel
theorem dX5_init_186 : decode cX5_init 186 = .ok (.goto 19, 3) := by decide +kernel
theorem dX5_init_189 : decode cX5_init 189 = .ok (.iload_n 2, 1) := by decide +kernel
theorem dX5_init_190 : decode cX5_init 190 = .ok (.aload_n 0, 1) := by decide +kernel
theorem dX5_init_191 : decode cX5_init 191 = .ok (.getfield 66, 3) := by decide +kernel
theorem dX5_init_194 : decode cX5_init 194 = .ok (.if_icmp .le 10, 3) := by decide +kernel
theorem dX5_init_197 : decode cX5_init 197 = .ok (.aload_n 0, 1) := by decide +kernel
theorem dX5_init_198 : decode cX5_init 198 = .ok (.getfield 66, 3) := by decide +kernel
theorem dX5_init_201 : decode cX5_init 201 = .ok (.goto 4, 3) := by decide +kernel
theorem dX5_init_204 : decode cX5_init 204 = .ok (.iload_n 2, 1) := by decide +kernel
theorem dX5_init_205 : decode cX5_init 205 = .ok (.isub, 1) := by decide +kernel
theorem dX5_init_206 : decode cX5_init 206 = .ok (.putfield 70, 3) := by decide +kernel
theorem dX5_init_209 : decode cX5_init 209 = .ok (.iconst 0, 1) := by decide +kernel
theorem dX5_init_210 : decode cX5_init 210 = .ok (.istore_n 3, 1) := by decide +kernel
theorem dX5_init_211 : decode cX5_init 211 = .ok (.iload_n 3, 1) := by decide +kernel
theorem dX5_init_212 : decode cX5_init 212 = .ok (.bipush 24, 2) := by decide +kernel
theorem dX5_init_214 : decode cX5_init 214 = .ok (.if_icmp .ge 16, 3) := by decide +kernel
theorem dX5_init_217 : decode cX5_init 217 = .ok (.aload_n 0, 1) := by decide +kernel
theorem dX5_init_218 : decode cX5_init 218 = .ok (.getfield 7, 3) := by decide +kernel
theorem dX5_init_221 : decode cX5_init 221 = .ok (.iload_n 3, 1) := by decide +kernel
theorem dX5_init_222 : decode cX5_init 222 = .ok (.iconst 1, 1) := by decide +kernel
theorem dX5_init_223 : decode cX5_init 223 = .ok (.iastore, 1) := by decide +kernel
theorem dX5_init_224 : decode cX5_init 224 = .ok (.iinc 3 1, 3) := by decide +kernel
theorem dX5_init_227 : decode cX5_init 227 = .ok (.goto (-16), 3) := by decide +kernel
theorem dX5_init_230 : decode cX5_init 230 = .ok (.return_, 1) := by decide +kernel
theorem dX5_throwsIf_0 : decode cX5_throwsIf 0 = .ok (.aload_n 0, 1) := by decide +kernel
theorem dX5_throwsIf_1 : decode cX5_throwsIf 1 = .ok (.iload_n 2, 1) := by decide +kernel
theorem dX5_throwsIf_2 : decode cX5_throwsIf 2 = .ok (.ifCond .eq 7, 3) := by decide +kernel
theorem dX5_throwsIf_5 : decode cX5_throwsIf 5 = .ok (.iload_n 1, 1) := by decide +kernel
theorem dX5_throwsIf_6 : decode cX5_throwsIf 6 = .ok (.goto 4, 3) := by decide +kernel
theorem dX5_throwsIf_9 : decode cX5_throwsIf 9 = .ok (.iconst 0, 1) := by decide +kernel
theorem dX5_throwsIf_10 : decode cX5_throwsIf 10 = .ok (.putfield 73, 3) := by decide +kernel
theorem dX5_throwsIf_13 : decode cX5_throwsIf 13 = .ok (.iload_n 2, 1) := by decide +kernel
theorem dX5_throwsIf_14 : decode cX5_throwsIf 14 = .ok (.ireturn, 1) := by decide +kernel
theorem dX5_isColumn_0 : decode cX5_isColumn 0 = .ok (.iload_n 1, 1) := by decide +kernel
theorem dX5_isColumn_1 : decode cX5_isColumn 1 = .ok (.ifCond .lt 15, 3) := by decide +kernel
theorem dX5_isColumn_4 : decode cX5_isColumn 4 = .ok (.iload_n 1, 1) := by decide +kernel
theorem dX5_isColumn_5 : decode cX5_isColumn 5 = .ok (.aload_n 0, 1) := by decide +kernel
theorem dX5_isColumn_6 : decode cX5_isColumn 6 = .ok (.getfield 66, 3) := by decide +kernel
theorem dX5_isColumn_9 : decode cX5_isColumn 9 = .ok (.if_icmp .ge 7, 3) := by decide +kernel
theorem dX5_isColumn_12 : decode cX5_isColumn 12 = .ok (.iconst 1, 1) := by decide +kernel
theorem dX5_isColumn_13 : decode cX5_isColumn 13 = .ok (.goto 4, 3) := by decide +kernel
theorem dX5_isColumn_16 : decode cX5_isColumn 16 = .ok (.iconst 0, 1) := by decide +kernel
theorem dX5_isColumn_17 : decode cX5_isColumn 17 = .ok (.ireturn, 1) := by decide +kernel
theorem dX5_isRow_0 : decode cX5_isRow 0 = .ok (.iload_n 1, 1) := by decide +kernel
theorem dX5_isRow_1 : decode cX5_isRow 1 = .ok (.ifCond .lt 15, 3) := by decide +kernel
theorem dX5_isRow_4 : decode cX5_isRow 4 = .ok (.iload_n 1, 1) := by decide +kernel
theorem dX5_isRow_5 : decode cX5_isRow 5 = .ok (.aload_n 0, 1) := by decide +kernel
theorem dX5_isRow_6 : decode cX5_isRow 6 = .ok (.getfield 76, 3) := by decide +kernel
theorem dX5_isRow_9 : decode cX5_isRow 9 = .ok (.if_icmp .ge 7, 3) := by decide +kernel
theorem dX5_isRow_12 : decode cX5_isRow 12 = .ok (.iconst 1, 1) := by decide +kernel
theorem dX5_isRow_13 : decode cX5_isRow 13 = .ok (.goto 4, 3) := by decide +kernel
theorem dX5_isRow_16 : decode cX5_isRow 16 = .ok (.iconst 0, 1) := by decide +kernel
theorem dX5_isRow_17 : decode cX5_isRow 17 = .ok (.ireturn, 1) := by decide +kernel
theorem dX5_has_0 : decode cX5_has 0 = .ok (.aload_n 0, 1) := by decide +kernel
theorem dX5_has_1 : decode cX5_has 1 = .ok (.getfield 13, 3) := by decide +kernel
theorem dX5_has_4 : decode cX5_has 4 = .ok (.iload_n 1, 1) := by decide +kernel
theorem dX5_has_5 : decode cX5_has 5 = .ok (.iaload, 1) := by decide +kernel
theorem dX5_has_6 : decode cX5_has 6 = .ok (.iload_n 2, 1) := by decide +kernel
theorem dX5_has_7 : decode cX5_has 7 = .ok (.ishr, 1) := by decide +kernel
theorem dX5_has_8 : decode cX5_has 8 = .ok (.iconst 1, 1) := by decide +kernel
theorem dX5_has_9 : decode cX5_has 9 = .ok (.iand, 1) := by decide +kernel
theorem dX5_has_10 : decode cX5_has 10 = .ok (.iconst 1, 1) := by decide +kernel
theorem dX5_has_11 : decode cX5_has 11 = .ok (.if_icmp .ne 7, 3) := by decide +kernel
theorem dX5_has_14 : decode cX5_has 14 = .ok (.iconst 1, 1) := by decide +kernel
theorem dX5_has_15 : decode cX5_has 15 = .ok (.goto 4, 3) := by decide +kernel
theorem dX5_has_18 : decode cX5_has 18 = .ok (.iconst 0, 1) := by decide +kernel
theorem dX5_has_19 : decode cX5_has 19 = .ok (.ireturn, 1) := by decide +kernel
theorem dX5_countOf_0 : decode cX5_countOf 0 = .ok (.iconst 0, 1) := by decide +kernel
theorem dX5_countOf_1 : decode cX5_countOf 1 = .ok (.istore_n 1, 1) := by decide +kernel
theorem dX5_countOf_2 : decode cX5_countOf 2 = .ok (.iconst 0, 1) := by decide +kernel
theorem dX5_countOf_3 : decode cX5_countOf 3 = .ok (.istore_n 2, 1) := by decide +kernel
theorem dX5_countOf_4 : decode cX5_countOf 4 = .ok (.iload_n 2, 1) := by decide +kernel
theorem dX5_countOf_5 : decode cX5_countOf 5 = .ok (.bipush 24, 2) := by decide +kernel
theorem dX5_countOf_7 : decode cX5_countOf 7 = .ok (.if_icmp .ge 17, 3) := by decide +kernel
theorem dX5_countOf_10 : decode cX5_countOf 10 = .ok (.iload_n 1, 1) := by decide +kernel
theorem dX5_countOf_11 : decode cX5_countOf 11 = .ok (.iload_n 0, 1) := by decide +kernel
theorem dX5_countOf_12 : decode cX5_countOf 12 = .ok (.iload_n 2, 1) := by decide +kernel
theorem dX5_countOf_13 : decode cX5_countOf 13 = .ok (.ishr, 1) := by decide +kernel
theorem dX5_countOf_14 : decode cX5_countOf 14 = .ok (.iconst 1, 1) := by decide +kernel
theorem dX5_countOf_15 : decode cX5_countOf 15 = .ok (.iand, 1) := by decide +kernel
theorem dX5_countOf_16 : decode cX5_countOf 16 = .ok (.iadd, 1) := by decide +kernel
theorem dX5_countOf_17 : decode cX5_countOf 17 = .ok (.istore_n 1, 1) := by decide +kernel
theorem dX5_countOf_18 : decode cX5_countOf 18 = .ok (.iinc 2 1, 3) := by decide +kernel
theorem dX5_countOf_21 : decode cX5_countOf 21 = .ok (.goto (-17), 3) := by decide +kernel
theorem dX5_countOf_24 : decode cX5_countOf 24 = .ok (.iload_n 1, 1) := by decide +kernel
theorem dX5_countOf_25 : decode cX5_countOf 25 = .ok (.ireturn, 1) := by decide +kernel
set_option maxRecDepth 20000 in
theorem ggX5_times_X5_isColumn : GoodIn wsX5_times wsX5_isColumn := goodIn_r _ [9, 10, 16, 17, 18, 19, 20, 21, 22, 23, 24, 25, 26, 27, 28, 29, 30, 31, 32, 33, 34, 35, 36, 37, 38, 39, 40, 41, 42, 43, 44, 45, 46, 47, 48] (by decide +kernel) (by decide +kernel)
set_option maxRecDepth 20000 in
theorem gX5_times_X5_isColumn : GoodIn wsX5_times (wsV RX5 79 RX5 yX5_isColumn wsX5_isColumn) := goodIn_app (goodIn_r _ [5, 6, 7, 8] (by decide +kernel) (by decide +kernel)) ggX5_times_X5_isColumn
set_option maxRecDepth 20000 in
theorem ggX5_times_X5_throwsIf : GoodIn wsX5_times wsX5_throwsIf := goodIn_r _ [14, 15, 16, 17, 18, 19, 20, 21, 22, 23, 24, 25, 26, 27, 28, 29, 30, 31, 32, 33, 34, 35, 36, 37, 38, 39, 40, 41, 42, 43, 44, 45, 46, 47, 48] (by decide +kernel) (by decide +kernel)
set_option maxRecDepth 20000 in
theorem gX5_times_X5_throwsIf : GoodIn wsX5_times (wsV RX5 83 RX5 yX5_throwsIf wsX5_throwsIf) := goodIn_app (goodIn_r _ [11, 12, 13, 8] (by decide +kernel) (by decide +kernel)) ggX5_times_X5_throwsIf
theorem dX5_times_0 : decode cX5_times 0 = .ok (.aload_n 0, 1) := by decide +kernel
theorem dX5_times_1 : decode cX5_times 1 = .ok (.iconst 1, 1) := by decide +kernel
theorem dX5_times_2 : decode cX5_times 2 = .ok (.aload_n 0, 1) := by decide +kernel
theorem dX5_times_3 : decode cX5_times 3 = .ok (.iload_n 1, 1) := by decide +kernel
theorem dX5_times_4 : decode cX5_times 4 = .ok (.invokevirtual 79, 3) := by decide +kernel
theorem dX5_times_7 : decode cX5_times 7 = .ok (.ifCond .ne 7, 3) := by decide +kernel
theorem dX5_times_10 : decode cX5_times 10 = .ok (.iconst 1, 1) := by decide +kernel
theorem dX5_times_11 : decode cX5_times 11 = .ok (.goto 4, 3) := by decide +kernel
theorem dX5_times_14 : decode cX5_times 14 = .ok (.iconst 0, 1) := by decide +kernel
theorem dX5_times_15 : decode cX5_times 15 = .ok (.invokevirtual 83, 3) := by decide +kernel
theorem dX5_times_18 : decode cX5_times 18 = .ok (.ifCond .ne 28, 3) := by decide +kernel
theorem dX5_times_21 : decode cX5_times 21 = .ok (.iload_n 2, 1) := by decide +kernel
theorem dX5_times_22 : decode cX5_times 22 = .ok (.iconst 1, 1) := by decide +kernel
theorem dX5_times_23 : decode cX5_times 23 = .ok (.if_icmp .lt 23, 3) := by decide +kernel
theorem dX5_times_26 : decode cX5_times 26 = .ok (.iload_n 2, 1) := by decide +kernel
theorem dX5_times_27 : decode cX5_times 27 = .ok (.iconst 3, 1) := by decide +kernel
theorem dX5_times_28 : decode cX5_times 28 = .ok (.if_icmp .gt 18, 3) := by decide +kernel
theorem dX5_times_31 : decode cX5_times 31 = .ok (.iload_n 1, 1) := by decide +kernel
theorem dX5_times_32 : decode cX5_times 32 = .ok (.aload_n 0, 1) := by decide +kernel
theorem dX5_times_33 : decode cX5_times 33 = .ok (.getfield 70, 3) := by decide +kernel
theorem dX5_times_36 : decode cX5_times 36 = .ok (.if_icmp .ge 10, 3) := by decide +kernel
theorem dX5_times_39 : decode cX5_times 39 = .ok (.aload_n 0, 1) := by decide +kernel
theorem dX5_times_40 : decode cX5_times 40 = .ok (.getfield 87, 3) := by decide +kernel
theorem dX5_times_43 : decode cX5_times 43 = .ok (.ifCond .le 5, 3) := by decide +kernel
theorem dX5_times_46 : decode cX5_times 46 = .ok (.iconst 0, 1) := by decide +kernel
theorem dX5_times_47 : decode cX5_times 47 = .ok (.ireturn, 1) := by decide +kernel
theorem dX5_times_48 : decode cX5_times 48 = .ok (.aload_n 0, 1) := by decide +kernel
theorem dX5_times_49 : decode cX5_times 49 = .ok (.getfield 7, 3) := by decide +kernel
theorem dX5_times_52 : decode cX5_times 52 = .ok (.iload_n 1, 1) := by decide +kernel
theorem dX5_times_53 : decode cX5_times 53 = .ok (.iload_n 2, 1) := by decide +kernel
theorem dX5_times_54 : decode cX5_times 54 = .ok (.iastore, 1) := by decide +kernel
theorem dX5_times_55 : decode cX5_times 55 = .ok (.aload_n 0, 1) := by decide +kernel
theorem dX5_times_56 : decode cX5_times 56 = .ok (.iconst 0, 1) := by decide +kernel
theorem dX5_times_57 : decode cX5_times 57 = .ok (.putfield 90, 3) := by decide +kernel
theorem dX5_times_60 : decode cX5_times 60 = .ok (.iconst 1, 1) := by decide +kernel
theorem dX5_times_61 : decode cX5_times 61 = .ok (.ireturn, 1) := by decide +kernel
theorem dX5_addRow_0 : decode cX5_addRow 0 = .ok (.aload_n 0, 1) := by decide +kernel
theorem dX5_addRow_1 : decode cX5_addRow 1 = .ok (.getfield 13, 3) := by decide +kernel
theorem dX5_addRow_4 : decode cX5_addRow 4 = .ok (.aload_n 0, 1) := by decide +kernel
theorem dX5_addRow_5 : decode cX5_addRow 5 = .ok (.getfield 76, 3) := by decide +kernel
theorem dX5_addRow_8 : decode cX5_addRow 8 = .ok (.iload_n 1, 1) := by decide +kernel
theorem dX5_addRow_9 : decode cX5_addRow 9 = .ok (.iastore, 1) := by decide +kernel
theorem dX5_addRow_10 : decode cX5_addRow 10 = .ok (.iconst 0, 1) := by decide +kernel
theorem dX5_addRow_11 : decode cX5_addRow 11 = .ok (.istore_n 2, 1) := by decide +kernel
theorem dX5_addRow_12 : decode cX5_addRow 12 = .ok (.iload_n 2, 1) := by decide +kernel
theorem dX5_addRow_13 : decode cX5_addRow 13 = .ok (.bipush 24, 2) := by decide +kernel
theorem dX5_addRow_15 : decode cX5_addRow 15 = .ok (.if_icmp .ge 24, 3) := by decide +kernel
theorem dX5_addRow_18 : decode cX5_addRow 18 = .ok (.aload_n 0, 1) := by decide +kernel
theorem dX5_addRow_19 : decode cX5_addRow 19 = .ok (.getfield 16, 3) := by decide +kernel
theorem dX5_addRow_22 : decode cX5_addRow 22 = .ok (.bipush 24, 2) := by decide +kernel
theorem dX5_addRow_24 : decode cX5_addRow 24 = .ok (.aload_n 0, 1) := by decide +kernel
theorem dX5_addRow_25 : decode cX5_addRow 25 = .ok (.getfield 76, 3) := by decide +kernel
theorem dX5_addRow_28 : decode cX5_addRow 28 = .ok (.imul, 1) := by decide +kernel
theorem dX5_addRow_29 : decode cX5_addRow 29 = .ok (.iload_n 2, 1) := by decide +kernel
theorem dX5_addRow_30 : decode cX5_addRow 30 = .ok (.iadd, 1) := by decide +kernel
theorem dX5_addRow_31 : decode cX5_addRow 31 = .ok (.iconst 0, 1) := by decide +kernel
theorem dX5_addRow_32 : decode cX5_addRow 32 = .ok (.iastore, 1) := by decide +kernel
theorem dX5_addRow_33 : decode cX5_addRow 33 = .ok (.iinc 2 1, 3) := by decide +kernel
theorem dX5_addRow_36 : decode cX5_addRow 36 = .ok (.goto (-24), 3) := by decide +kernel
theorem dX5_addRow_39 : decode cX5_addRow 39 = .ok (.aload_n 0, 1) := by decide +kernel
theorem dX5_addRow_40 : decode cX5_addRow 40 = .ok (.dup, 1) := by decide +kernel
theorem dX5_addRow_41 : decode cX5_addRow 41 = .ok (.getfield 76, 3) := by decide +kernel
theorem dX5_addRow_44 : decode cX5_addRow 44 = .ok (.iconst 1, 1) := by decide +kernel
theorem dX5_addRow_45 : decode cX5_addRow 45 = .ok (.iadd, 1) := by decide +kernel
theorem dX5_addRow_46 : decode cX5_addRow 46 = .ok (.putfield 76, 3) := by decide +kernel
theorem dX5_addRow_49 : decode cX5_addRow 49 = .ok (.aload_n 0, 1) := by decide +kernel
theorem dX5_addRow_50 : decode cX5_addRow 50 = .ok (.iconst 0, 1) := by decide +kernel
theorem dX5_addRow_51 : decode cX5_addRow 51 = .ok (.putfield 90, 3) := by decide +kernel
theorem dX5_addRow_54 : decode cX5_addRow 54 = .ok (.aload_n 0, 1) := by decide +kernel
theorem dX5_addRow_55 : decode cX5_addRow 55 = .ok (.getfield 76, 3) := by decide +kernel
theorem dX5_addRow_58 : decode cX5_addRow 58 = .ok (.iconst 1, 1) := by decide +kernel
theorem dX5_addRow_59 : decode cX5_addRow 59 = .ok (.isub, 1) := by decide +kernel
theorem dX5_addRow_60 : decode cX5_addRow 60 = .ok (.ireturn, 1) := by decide +kernel
set_option maxRecDepth 20000 in
theorem ggX5_row_X5_addRow : GoodIn wsX5_row wsX5_addRow := goodIn_r _ [8, 9, 2, 10, 11, 12, 13, 14, 15, 16, 17, 18, 19, 20, 21, 22, 23, 24, 25, 26, 27, 28, 29, 30, 31, 32, 33, 34, 35, 36, 37, 38, 39, 40, 41, 42, 43, 44] (by decide +kernel) (by decide +kernel)
set_option maxRecDepth 20000 in
theorem gX5_row_X5_addRow : GoodIn wsX5_row (wsV RX5 93 RX5 yX5_addRow wsX5_addRow) := goodIn_app (goodIn_r _ [4, 5, 6, 7] (by decide +kernel) (by decide +kernel)) ggX5_row_X5_addRow
theorem dX5_row_0 : decode cX5_row 0 = .ok (.aload_n 0, 1) := by decide +kernel
theorem dX5_row_1 : decode cX5_row 1 = .ok (.iconst 0, 1) := by decide +kernel
theorem dX5_row_2 : decode cX5_row 2 = .ok (.putfield 73, 3) := by decide +kernel
theorem dX5_row_5 : decode cX5_row 5 = .ok (.aload_n 0, 1) := by decide +kernel
theorem dX5_row_6 : decode cX5_row 6 = .ok (.getfield 76, 3) := by decide +kernel
theorem dX5_row_9 : decode cX5_row 9 = .ok (.bipush 60, 2) := by decide +kernel
theorem dX5_row_11 : decode cX5_row 11 = .ok (.if_icmp .eq 10, 3) := by decide +kernel
theorem dX5_row_14 : decode cX5_row 14 = .ok (.aload_n 0, 1) := by decide +kernel
theorem dX5_row_15 : decode cX5_row 15 = .ok (.getfield 87, 3) := by decide +kernel
theorem dX5_row_18 : decode cX5_row 18 = .ok (.ifCond .le 7, 3) := by decide +kernel
theorem dX5_row_21 : decode cX5_row 21 = .ok (.iconst (-1), 1) := by decide +kernel
theorem dX5_row_22 : decode cX5_row 22 = .ok (.goto 8, 3) := by decide +kernel
theorem dX5_row_25 : decode cX5_row 25 = .ok (.aload_n 0, 1) := by decide +kernel
theorem dX5_row_26 : decode cX5_row 26 = .ok (.iconst 0, 1) := by decide +kernel
theorem dX5_row_27 : decode cX5_row 27 = .ok (.invokevirtual 93, 3) := by decide +kernel
theorem dX5_row_30 : decode cX5_row 30 = .ok (.ireturn, 1) := by decide +kernel
set_option maxRecDepth 20000 in
theorem ggX5_entry_X5_isColumn : GoodIn wsX5_entry wsX5_isColumn := goodIn_r _ [10, 11, 24, 25, 26, 27, 28, 29, 30, 31, 32, 33, 34, 35, 36, 37, 38, 39, 40, 41, 42, 43, 44, 45, 46, 47, 48, 49, 50, 51, 52, 53, 54, 55, 56] (by decide +kernel) (by decide +kernel)
set_option maxRecDepth 20000 in
theorem gX5_entry_X5_isColumn : GoodIn wsX5_entry (wsV RX5 79 RX5 yX5_isColumn wsX5_isColumn) := goodIn_app (goodIn_r _ [6, 7, 8, 9] (by decide +kernel) (by decide +kernel)) ggX5_entry_X5_isColumn
set_option maxRecDepth 20000 in
theorem ggX5_entry_X5_throwsIf : GoodIn wsX5_entry wsX5_throwsIf := goodIn_r _ [15, 16, 24, 25, 26, 27, 28, 29, 30, 31, 32, 33, 34, 35, 36, 37, 38, 39, 40, 41, 42, 43, 44, 45, 46, 47, 48, 49, 50, 51, 52, 53, 54, 55, 56] (by decide +kernel) (by decide +kernel)
set_option maxRecDepth 20000 in
theorem gX5_entry_X5_throwsIf : GoodIn wsX5_entry (wsV RX5 83 RX5 yX5_throwsIf wsX5_throwsIf) := goodIn_app (goodIn_r _ [12, 13, 14, 9] (by decide +kernel) (by decide +kernel)) ggX5_entry_X5_throwsIf
set_option maxRecDepth 20000 in
theorem ggX5_entry_X5_has : GoodIn wsX5_entry wsX5_has := goodIn_r _ [20, 3, 24, 25, 26, 27, 28, 29, 30, 31, 32, 33, 34, 35, 36, 37, 38, 39, 40, 41, 42, 43, 44, 45, 46, 47, 48, 49, 50, 51, 52, 53, 54, 55, 56] (by decide +kernel) (by decide +kernel)
set_option maxRecDepth 20000 in
theorem gX5_entry_X5_has : GoodIn wsX5_entry (wsV RX5 97 RX5 yX5_has wsX5_has) := goodIn_app (goodIn_r _ [17, 18, 19, 9] (by decide +kernel) (by decide +kernel)) ggX5_entry_X5_has
set_option maxRecDepth 20000 in
theorem ggX5_entry_X5_countOf : GoodIn wsX5_entry wsX5_countOf := goodIn_r _ [23] (by decide +kernel) (by decide +kernel)
set_option maxRecDepth 20000 in
theorem gX5_entry_X5_countOf : GoodIn wsX5_entry (va_wsS RX5 101 yX5_countOf wsX5_countOf) := goodIn_app (goodIn_r _ [21, 22, 9] (by decide +kernel) (by decide +kernel)) ggX5_entry_X5_countOf
theorem dX5_entry_0 : decode cX5_entry 0 = .ok (.aload_n 0, 1) := by decide +kernel
theorem dX5_entry_1 : decode cX5_entry 1 = .ok (.iconst 1, 1) := by decide +kernel
theorem dX5_entry_2 : decode cX5_entry 2 = .ok (.aload_n 0, 1) := by decide +kernel
theorem dX5_entry_3 : decode cX5_entry 3 = .ok (.iload_n 1, 1) := by decide +kernel
theorem dX5_entry_4 : decode cX5_entry 4 = .ok (.invokevirtual 79, 3) := by decide +kernel
theorem dX5_entry_7 : decode cX5_entry 7 = .ok (.ifCond .ne 7, 3) := by decide +kernel
theorem dX5_entry_10 : decode cX5_entry 10 = .ok (.iconst 1, 1) := by decide +kernel
theorem dX5_entry_11 : decode cX5_entry 11 = .ok (.goto 4, 3) := by decide +kernel
theorem dX5_entry_14 : decode cX5_entry 14 = .ok (.iconst 0, 1) := by decide +kernel
theorem dX5_entry_15 : decode cX5_entry 15 = .ok (.invokevirtual 83, 3) := by decide +kernel
theorem dX5_entry_18 : decode cX5_entry 18 = .ok (.ifCond .ne 26, 3) := by decide +kernel
theorem dX5_entry_21 : decode cX5_entry 21 = .ok (.aload_n 0, 1) := by decide +kernel
theorem dX5_entry_22 : decode cX5_entry 22 = .ok (.iconst 2, 1) := by decide +kernel
theorem dX5_entry_23 : decode cX5_entry 23 = .ok (.iload_n 2, 1) := by decide +kernel
theorem dX5_entry_24 : decode cX5_entry 24 = .ok (.ifCond .lt 9, 3) := by decide +kernel
theorem dX5_entry_27 : decode cX5_entry 27 = .ok (.iload_n 2, 1) := by decide +kernel
theorem dX5_entry_28 : decode cX5_entry 28 = .ok (.bipush 7, 2) := by decide +kernel
theorem dX5_entry_30 : decode cX5_entry 30 = .ok (.if_icmp .le 7, 3) := by decide +kernel
theorem dX5_entry_33 : decode cX5_entry 33 = .ok (.iconst 1, 1) := by decide +kernel
theorem dX5_entry_34 : decode cX5_entry 34 = .ok (.goto 4, 3) := by decide +kernel
theorem dX5_entry_37 : decode cX5_entry 37 = .ok (.iconst 0, 1) := by decide +kernel
theorem dX5_entry_38 : decode cX5_entry 38 = .ok (.invokevirtual 83, 3) := by decide +kernel
theorem dX5_entry_41 : decode cX5_entry 41 = .ok (.ifCond .eq 5, 3) := by decide +kernel
theorem dX5_entry_44 : decode cX5_entry 44 = .ok (.iconst 0, 1) := by decide +kernel
theorem dX5_entry_45 : decode cX5_entry 45 = .ok (.ireturn, 1) := by decide +kernel
theorem dX5_entry_46 : decode cX5_entry 46 = .ok (.aload_n 0, 1) := by decide +kernel
theorem dX5_entry_47 : decode cX5_entry 47 = .ok (.getfield 76, 3) := by decide +kernel
theorem dX5_entry_50 : decode cX5_entry 50 = .ok (.ifCond .eq 43, 3) := by decide +kernel
theorem dX5_entry_53 : decode cX5_entry 53 = .ok (.aload_n 0, 1) := by decide +kernel
theorem dX5_entry_54 : decode cX5_entry 54 = .ok (.getfield 87, 3) := by decide +kernel
theorem dX5_entry_57 : decode cX5_entry 57 = .ok (.ifCond .gt 36, 3) := by decide +kernel
theorem dX5_entry_60 : decode cX5_entry 60 = .ok (.aload_n 0, 1) := by decide +kernel
theorem dX5_entry_61 : decode cX5_entry 61 = .ok (.aload_n 0, 1) := by decide +kernel
theorem dX5_entry_62 : decode cX5_entry 62 = .ok (.getfield 76, 3) := by decide +kernel
theorem dX5_entry_65 : decode cX5_entry 65 = .ok (.iconst 1, 1) := by decide +kernel
theorem dX5_entry_66 : decode cX5_entry 66 = .ok (.isub, 1) := by decide +kernel
theorem dX5_entry_67 : decode cX5_entry 67 = .ok (.iload_n 1, 1) := by decide +kernel
theorem dX5_entry_68 : decode cX5_entry 68 = .ok (.invokevirtual 97, 3) := by decide +kernel
theorem dX5_entry_71 : decode cX5_entry 71 = .ok (.ifCond .ne 22, 3) := by decide +kernel
theorem dX5_entry_74 : decode cX5_entry 74 = .ok (.aload_n 0, 1) := by decide +kernel
theorem dX5_entry_75 : decode cX5_entry 75 = .ok (.getfield 13, 3) := by decide +kernel
theorem dX5_entry_78 : decode cX5_entry 78 = .ok (.aload_n 0, 1) := by decide +kernel
theorem dX5_entry_79 : decode cX5_entry 79 = .ok (.getfield 76, 3) := by decide +kernel
theorem dX5_entry_82 : decode cX5_entry 82 = .ok (.iconst 1, 1) := by decide +kernel
theorem dX5_entry_83 : decode cX5_entry 83 = .ok (.isub, 1) := by decide +kernel
theorem dX5_entry_84 : decode cX5_entry 84 = .ok (.iaload, 1) := by decide +kernel
theorem dX5_entry_85 : decode cX5_entry 85 = .ok (.invokestatic 101, 3) := by decide +kernel
theorem dX5_entry_88 : decode cX5_entry 88 = .ok (.bipush 8, 2) := by decide +kernel
theorem dX5_entry_90 : decode cX5_entry 90 = .ok (.if_icmp .ne 5, 3) := by decide +kernel
theorem dX5_entry_93 : decode cX5_entry 93 = .ok (.iconst 0, 1) := by decide +kernel
theorem dX5_entry_94 : decode cX5_entry 94 = .ok (.ireturn, 1) := by decide +kernel
theorem dX5_entry_95 : decode cX5_entry 95 = .ok (.aload_n 0, 1) := by decide +kernel
theorem dX5_entry_96 : decode cX5_entry 96 = .ok (.getfield 13, 3) := by decide +kernel
theorem dX5_entry_99 : decode cX5_entry 99 = .ok (.aload_n 0, 1) := by decide +kernel
theorem dX5_entry_100 : decode cX5_entry 100 = .ok (.getfield 76, 3) := by decide +kernel
theorem dX5_entry_103 : decode cX5_entry 103 = .ok (.iconst 1, 1) := by decide +kernel
theorem dX5_entry_104 : decode cX5_entry 104 = .ok (.isub, 1) := by decide +kernel
theorem dX5_entry_105 : decode cX5_entry 105 = .ok (.aload_n 0, 1) := by decide +kernel
theorem dX5_entry_106 : decode cX5_entry 106 = .ok (.getfield 13, 3) := by decide +kernel
theorem dX5_entry_109 : decode cX5_entry 109 = .ok (.aload_n 0, 1) := by decide +kernel
theorem dX5_entry_110 : decode cX5_entry 110 = .ok (.getfield 76, 3) := by decide +kernel
theorem dX5_entry_113 : decode cX5_entry 113 = .ok (.iconst 1, 1) := by decide +kernel
theorem dX5_entry_114 : decode cX5_entry 114 = .ok (.isub, 1) := by decide +kernel
theorem dX5_entry_115 : decode cX5_entry 115 = .ok (.iaload, 1) := by decide +kernel
theorem dX5_entry_116 : decode cX5_entry 116 = .ok (.iconst 1, 1) := by decide +kernel
theorem dX5_entry_117 : decode cX5_entry 117 = .ok (.iload_n 1, 1) := by decide +kernel
theorem dX5_entry_118 : decode cX5_entry 118 = .ok (.ishl, 1) := by decide +kernel
theorem dX5_entry_119 : decode cX5_entry 119 = .ok (.ior, 1) := by decide +kernel
theorem dX5_entry_120 : decode cX5_entry 120 = .ok (.iastore, 1) := by decide +kernel
theorem dX5_entry_121 : decode cX5_entry 121 = .ok (.aload_n 0, 1) := by decide +kernel
theorem dX5_entry_122 : decode cX5_entry 122 = .ok (.getfield 16, 3) := by decide +kernel
theorem dX5_entry_125 : decode cX5_entry 125 = .ok (.bipush 24, 2) := by decide +kernel
theorem dX5_entry_127 : decode cX5_entry 127 = .ok (.aload_n 0, 1) := by decide +kernel
theorem dX5_entry_128 : decode cX5_entry 128 = .ok (.getfield 76, 3) := by decide +kernel
theorem dX5_entry_131 : decode cX5_entry 131 = .ok (.iconst 1, 1) := by decide +kernel
theorem dX5_entry_132 : decode cX5_entry 132 = .ok (.isub, 1) := by decide +kernel
theorem dX5_entry_133 : decode cX5_entry 133 = .ok (.imul, 1) := by decide +kernel
theorem dX5_entry_134 : decode cX5_entry 134 = .ok (.iload_n 1, 1) := by decide +kernel
theorem dX5_entry_135 : decode cX5_entry 135 = .ok (.iadd, 1) := by decide +kernel
theorem dX5_entry_136 : decode cX5_entry 136 = .ok (.iload_n 2, 1) := by decide +kernel
theorem dX5_entry_137 : decode cX5_entry 137 = .ok (.iastore, 1) := by decide +kernel
theorem dX5_entry_138 : decode cX5_entry 138 = .ok (.aload_n 0, 1) := by decide +kernel
theorem dX5_entry_139 : decode cX5_entry 139 = .ok (.iconst 0, 1) := by decide +kernel
theorem dX5_entry_140 : decode cX5_entry 140 = .ok (.putfield 90, 3) := by decide +kernel
theorem dX5_entry_143 : decode cX5_entry 143 = .ok (.iconst 1, 1) := by decide +kernel
theorem dX5_entry_144 : decode cX5_entry 144 = .ok (.ireturn, 1) := by decide +kernel
theorem dX5_cube_0 : decode cX5_cube 0 = .ok (.aload_n 0, 1) := by decide +kernel
theorem dX5_cube_1 : decode cX5_cube 1 = .ok (.iconst 0, 1) := by decide +kernel
theorem dX5_cube_2 : decode cX5_cube 2 = .ok (.putfield 73, 3) := by decide +kernel
theorem dX5_cube_5 : decode cX5_cube 5 = .ok (.iload_n 1, 1) := by decide +kernel
theorem dX5_cube_6 : decode cX5_cube 6 = .ok (.ifCond .lt 35, 3) := by decide +kernel
theorem dX5_cube_9 : decode cX5_cube 9 = .ok (.iload_n 1, 1) := by decide +kernel
theorem dX5_cube_10 : decode cX5_cube 10 = .ok (.iconst 2, 1) := by decide +kernel
theorem dX5_cube_11 : decode cX5_cube 11 = .ok (.if_icmp .gt 30, 3) := by decide +kernel
theorem dX5_cube_14 : decode cX5_cube 14 = .ok (.iload_n 2, 1) := by decide +kernel
theorem dX5_cube_15 : decode cX5_cube 15 = .ok (.ifCond .lt 26, 3) := by decide +kernel
theorem dX5_cube_18 : decode cX5_cube 18 = .ok (.iload_n 2, 1) := by decide +kernel
theorem dX5_cube_19 : decode cX5_cube 19 = .ok (.iconst 2, 1) := by decide +kernel
theorem dX5_cube_20 : decode cX5_cube 20 = .ok (.if_icmp .gt 21, 3) := by decide +kernel
theorem dX5_cube_23 : decode cX5_cube 23 = .ok (.iload_n 3, 1) := by decide +kernel
theorem dX5_cube_24 : decode cX5_cube 24 = .ok (.ifCond .lt 17, 3) := by decide +kernel
theorem dX5_cube_27 : decode cX5_cube 27 = .ok (.iload_n 3, 1) := by decide +kernel
theorem dX5_cube_28 : decode cX5_cube 28 = .ok (.iconst 2, 1) := by decide +kernel
theorem dX5_cube_29 : decode cX5_cube 29 = .ok (.if_icmp .gt 12, 3) := by decide +kernel
theorem dX5_cube_32 : decode cX5_cube 32 = .ok (.aload_n 0, 1) := by decide +kernel
theorem dX5_cube_33 : decode cX5_cube 33 = .ok (.getfield 104, 3) := by decide +kernel
theorem dX5_cube_36 : decode cX5_cube 36 = .ok (.bipush 7, 2) := by decide +kernel
theorem dX5_cube_38 : decode cX5_cube 38 = .ok (.if_icmp .ne 5, 3) := by decide +kernel
theorem dX5_cube_41 : decode cX5_cube 41 = .ok (.iconst 0, 1) := by decide +kernel
theorem dX5_cube_42 : decode cX5_cube 42 = .ok (.ireturn, 1) := by decide +kernel
theorem dX5_cube_43 : decode cX5_cube 43 = .ok (.bipush 9, 2) := by decide +kernel
theorem dX5_cube_45 : decode cX5_cube 45 = .ok (.iload_n 3, 1) := by decide +kernel
theorem dX5_cube_46 : decode cX5_cube 46 = .ok (.imul, 1) := by decide +kernel
theorem dX5_cube_47 : decode cX5_cube 47 = .ok (.iconst 3, 1) := by decide +kernel
theorem dX5_cube_48 : decode cX5_cube 48 = .ok (.iload_n 2, 1) := by decide +kernel
theorem dX5_cube_49 : decode cX5_cube 49 = .ok (.imul, 1) := by decide +kernel
theorem dX5_cube_50 : decode cX5_cube 50 = .ok (.iadd, 1) := by decide +kernel
theorem dX5_cube_51 : decode cX5_cube 51 = .ok (.iload_n 1, 1) := by decide +kernel
theorem dX5_cube_52 : decode cX5_cube 52 = .ok (.iadd, 1) := by decide +kernel
theorem dX5_cube_53 : decode cX5_cube 53 = .ok (.istore 4, 2) := by decide +kernel
theorem dX5_cube_55 : decode cX5_cube 55 = .ok (.iconst 0, 1) := by decide +kernel
theorem dX5_cube_56 : decode cX5_cube 56 = .ok (.istore 5, 2) := by decide +kernel
theorem dX5_cube_58 : decode cX5_cube 58 = .ok (.iload 5, 2) := by decide +kernel
theorem dX5_cube_60 : decode cX5_cube 60 = .ok (.aload_n 0, 1) := by decide +kernel
theorem dX5_cube_61 : decode cX5_cube 61 = .ok (.getfield 104, 3) := by decide +kernel
theorem dX5_cube_64 : decode cX5_cube 64 = .ok (.if_icmp .ge 23, 3) := by decide +kernel
theorem dX5_cube_67 : decode cX5_cube 67 = .ok (.aload_n 0, 1) := by decide +kernel
theorem dX5_cube_68 : decode cX5_cube 68 = .ok (.getfield 19, 3) := by decide +kernel
theorem dX5_cube_71 : decode cX5_cube 71 = .ok (.iload 5, 2) := by decide +kernel
theorem dX5_cube_73 : decode cX5_cube 73 = .ok (.iaload, 1) := by decide +kernel
theorem dX5_cube_74 : decode cX5_cube 74 = .ok (.iload 4, 2) := by decide +kernel
theorem dX5_cube_76 : decode cX5_cube 76 = .ok (.if_icmp .ne 5, 3) := by decide +kernel
theorem dX5_cube_79 : decode cX5_cube 79 = .ok (.iconst 0, 1) := by decide +kernel
theorem dX5_cube_80 : decode cX5_cube 80 = .ok (.ireturn, 1) := by decide +kernel
theorem dX5_cube_81 : decode cX5_cube 81 = .ok (.iinc 5 1, 3) := by decide +kernel
theorem dX5_cube_84 : decode cX5_cube 84 = .ok (.goto (-26), 3) := by decide +kernel
theorem dX5_cube_87 : decode cX5_cube 87 = .ok (.aload_n 0, 1) := by decide +kernel
theorem dX5_cube_88 : decode cX5_cube 88 = .ok (.getfield 19, 3) := by decide +kernel
theorem dX5_cube_91 : decode cX5_cube 91 = .ok (.aload_n 0, 1) := by decide +kernel
theorem dX5_cube_92 : decode cX5_cube 92 = .ok (.getfield 104, 3) := by decide +kernel
theorem dX5_cube_95 : decode cX5_cube 95 = .ok (.iload 4, 2) := by decide +kernel
theorem dX5_cube_97 : decode cX5_cube 97 = .ok (.iastore, 1) := by decide +kernel
theorem dX5_cube_98 : decode cX5_cube 98 = .ok (.aload_n 0, 1) := by decide +kernel
theorem dX5_cube_99 : decode cX5_cube 99 = .ok (.dup, 1) := by decide +kernel
theorem dX5_cube_100 : decode cX5_cube 100 = .ok (.getfield 104, 3) := by decide +kernel
theorem dX5_cube_103 : decode cX5_cube 103 = .ok (.iconst 1, 1) := by decide +kernel
theorem dX5_cube_104 : decode cX5_cube 104 = .ok (.iadd, 1) := by decide +kernel
theorem dX5_cube_105 : decode cX5_cube 105 = .ok (.putfield 104, 3) := by decide +kernel
theorem dX5_cube_108 : decode cX5_cube 108 = .ok (.iconst 1, 1) := by decide +kernel
theorem dX5_cube_109 : decode cX5_cube 109 = .ok (.ireturn, 1) := by decide +kernel
theorem dX5_turned_0 : decode cX5_turned 0 = .ok (.iload_n 0, 1) := by decide +kernel
theorem dX5_turned_1 : decode cX5_turned 1 = .ok (.iconst 3, 1) := by decide +kernel
theorem dX5_turned_2 : decode cX5_turned 2 = .ok (.irem, 1) := by decide +kernel
theorem dX5_turned_3 : decode cX5_turned 3 = .ok (.istore 5, 2) := by decide +kernel
theorem dX5_turned_5 : decode cX5_turned 5 = .ok (.iload_n 0, 1) := by decide +kernel
theorem dX5_turned_6 : decode cX5_turned 6 = .ok (.iconst 3, 1) := by decide +kernel
theorem dX5_turned_7 : decode cX5_turned 7 = .ok (.idiv, 1) := by decide +kernel
theorem dX5_turned_8 : decode cX5_turned 8 = .ok (.iconst 3, 1) := by decide +kernel
theorem dX5_turned_9 : decode cX5_turned 9 = .ok (.irem, 1) := by decide +kernel
theorem dX5_turned_10 : decode cX5_turned 10 = .ok (.istore 6, 2) := by decide +kernel
theorem dX5_turned_12 : decode cX5_turned 12 = .ok (.iload_n 0, 1) := by decide +kernel
theorem dX5_turned_13 : decode cX5_turned 13 = .ok (.bipush 9, 2) := by decide +kernel
theorem dX5_turned_15 : decode cX5_turned 15 = .ok (.idiv, 1) := by decide +kernel
theorem dX5_turned_16 : decode cX5_turned 16 = .ok (.istore 7, 2) := by decide +kernel
theorem dX5_turned_18 : decode cX5_turned 18 = .ok (.iconst 0, 1) := by decide +kernel
theorem dX5_turned_19 : decode cX5_turned 19 = .ok (.istore 8, 2) := by decide +kernel
theorem dX5_turned_21 : decode cX5_turned 21 = .ok (.iload_n 1, 1) := by decide +kernel
theorem dX5_turned_22 : decode cX5_turned 22 = .ok (.iconst 2, 1) := by decide +kernel
theorem dX5_turned_23 : decode cX5_turned 23 = .ok (.idiv, 1) := by decide +kernel
theorem dX5_turned_24 : decode cX5_turned 24 = .ok (.iload 4, 2) := by decide +kernel
theorem dX5_turned_26 : decode cX5_turned 26 = .ok (.if_icmp .ne 19, 3) := by decide +kernel
theorem dX5_turned_29 : decode cX5_turned 29 = .ok (.iload_n 1, 1) := by decide +kernel
theorem dX5_turned_30 : decode cX5_turned 30 = .ok (.iconst 2, 1) := by decide +kernel
theorem dX5_turned_31 : decode cX5_turned 31 = .ok (.irem, 1) := by decide +kernel
theorem dX5_turned_32 : decode cX5_turned 32 = .ok (.ifCond .ne 8, 3) := by decide +kernel
theorem dX5_turned_35 : decode cX5_turned 35 = .ok (.iload 5, 2) := by decide +kernel
theorem dX5_turned_37 : decode cX5_turned 37 = .ok (.goto 6, 3) := by decide +kernel
theorem dX5_turned_40 : decode cX5_turned 40 = .ok (.iload 5, 2) := by decide +kernel
theorem dX5_turned_42 : decode cX5_turned 42 = .ok (.ineg, 1) := by decide +kernel
theorem dX5_turned_43 : decode cX5_turned 43 = .ok (.istore 8, 2) := by decide +kernel
theorem dX5_turned_45 : decode cX5_turned 45 = .ok (.iload_n 2, 1) := by decide +kernel
theorem dX5_turned_46 : decode cX5_turned 46 = .ok (.iconst 2, 1) := by decide +kernel
theorem dX5_turned_47 : decode cX5_turned 47 = .ok (.idiv, 1) := by decide +kernel
theorem dX5_turned_48 : decode cX5_turned 48 = .ok (.iload 4, 2) := by decide +kernel
theorem dX5_turned_50 : decode cX5_turned 50 = .ok (.if_icmp .ne 19, 3) := by decide +kernel
theorem dX5_turned_53 : decode cX5_turned 53 = .ok (.iload_n 2, 1) := by decide +kernel
theorem dX5_turned_54 : decode cX5_turned 54 = .ok (.iconst 2, 1) := by decide +kernel
theorem dX5_turned_55 : decode cX5_turned 55 = .ok (.irem, 1) := by decide +kernel
theorem dX5_turned_56 : decode cX5_turned 56 = .ok (.ifCond .ne 8, 3) := by decide +kernel
theorem dX5_turned_59 : decode cX5_turned 59 = .ok (.iload 6, 2) := by decide +kernel
theorem dX5_turned_61 : decode cX5_turned 61 = .ok (.goto 6, 3) := by decide +kernel
theorem dX5_turned_64 : decode cX5_turned 64 = .ok (.iload 6, 2) := by decide +kernel
theorem dX5_turned_66 : decode cX5_turned 66 = .ok (.ineg, 1) := by decide +kernel
theorem dX5_turned_67 : decode cX5_turned 67 = .ok (.istore 8, 2) := by decide +kernel
theorem dX5_turned_69 : decode cX5_turned 69 = .ok (.iload_n 3, 1) := by decide +kernel
theorem dX5_turned_70 : decode cX5_turned 70 = .ok (.iconst 2, 1) := by decide +kernel
theorem dX5_turned_71 : decode cX5_turned 71 = .ok (.idiv, 1) := by decide +kernel
theorem dX5_turned_72 : decode cX5_turned 72 = .ok (.iload 4, 2) := by decide +kernel
theorem dX5_turned_74 : decode cX5_turned 74 = .ok (.if_icmp .ne 19, 3) := by decide +kernel
theorem dX5_turned_77 : decode cX5_turned 77 = .ok (.iload_n 3, 1) := by decide +kernel
theorem dX5_turned_78 : decode cX5_turned 78 = .ok (.iconst 2, 1) := by decide +kernel
theorem dX5_turned_79 : decode cX5_turned 79 = .ok (.irem, 1) := by decide +kernel
theorem dX5_turned_80 : decode cX5_turned 80 = .ok (.ifCond .ne 8, 3) := by decide +kernel
theorem dX5_turned_83 : decode cX5_turned 83 = .ok (.iload 7, 2) := by decide +kernel
theorem dX5_turned_85 : decode cX5_turned 85 = .ok (.goto 6, 3) := by decide +kernel
theorem dX5_turned_88 : decode cX5_turned 88 = .ok (.iload 7, 2) := by decide +kernel
theorem dX5_turned_90 : decode cX5_turned 90 = .ok (.ineg, 1) := by decide +kernel
theorem dX5_turned_91 : decode cX5_turned 91 = .ok (.istore 8, 2) := by decide +kernel
theorem dX5_turned_93 : decode cX5_turned 93 = .ok (.iload 8, 2) := by decide +kernel
theorem dX5_turned_95 : decode cX5_turned 95 = .ok (.ireturn, 1) := by decide +kernel
theorem dX5_third_0 : decode cX5_third 0 = .ok (.iconst 3, 1) := by decide +kernel
theorem dX5_third_1 : decode cX5_third 1 = .ok (.iload_n 0, 1) := by decide +kernel
theorem dX5_third_2 : decode cX5_third 2 = .ok (.iconst 2, 1) := by decide +kernel
theorem dX5_third_3 : decode cX5_third 3 = .ok (.idiv, 1) := by decide +kernel
theorem dX5_third_4 : decode cX5_third 4 = .ok (.isub, 1) := by decide +kernel
theorem dX5_third_5 : decode cX5_third 5 = .ok (.iload_n 1, 1) := by decide +kernel
theorem dX5_third_6 : decode cX5_third 6 = .ok (.iconst 2, 1) := by decide +kernel
theorem dX5_third_7 : decode cX5_third 7 = .ok (.idiv, 1) := by decide +kernel
theorem dX5_third_8 : decode cX5_third 8 = .ok (.isub, 1) := by decide +kernel
theorem dX5_third_9 : decode cX5_third 9 = .ok (.istore_n 2, 1) := by decide +kernel
theorem dX5_third_10 : decode cX5_third 10 = .ok (.iload_n 1, 1) := by decide +kernel
theorem dX5_third_11 : decode cX5_third 11 = .ok (.iconst 2, 1) := by decide +kernel
theorem dX5_third_12 : decode cX5_third 12 = .ok (.idiv, 1) := by decide +kernel
theorem dX5_third_13 : decode cX5_third 13 = .ok (.iload_n 0, 1) := by decide +kernel
theorem dX5_third_14 : decode cX5_third 14 = .ok (.iconst 2, 1) := by decide +kernel
theorem dX5_third_15 : decode cX5_third 15 = .ok (.idiv, 1) := by decide +kernel
theorem dX5_third_16 : decode cX5_third 16 = .ok (.isub, 1) := by decide +kernel
theorem dX5_third_17 : decode cX5_third 17 = .ok (.iconst 3, 1) := by decide +kernel
theorem dX5_third_18 : decode cX5_third 18 = .ok (.iadd, 1) := by decide +kernel
theorem dX5_third_19 : decode cX5_third 19 = .ok (.iconst 3, 1) := by decide +kernel
theorem dX5_third_20 : decode cX5_third 20 = .ok (.irem, 1) := by decide +kernel
theorem dX5_third_21 : decode cX5_third 21 = .ok (.iconst 1, 1) := by decide +kernel
theorem dX5_third_22 : decode cX5_third 22 = .ok (.if_icmp .ne 7, 3) := by decide +kernel
theorem dX5_third_25 : decode cX5_third 25 = .ok (.iconst 1, 1) := by decide +kernel
theorem dX5_third_26 : decode cX5_third 26 = .ok (.goto 4, 3) := by decide +kernel
theorem dX5_third_29 : decode cX5_third 29 = .ok (.iconst 0, 1) := by decide +kernel
theorem dX5_third_30 : decode cX5_third 30 = .ok (.istore_n 3, 1) := by decide +kernel
theorem dX5_third_31 : decode cX5_third 31 = .ok (.iconst 2, 1) := by decide +kernel
theorem dX5_third_32 : decode cX5_third 32 = .ok (.iload_n 2, 1) := by decide +kernel
theorem dX5_third_33 : decode cX5_third 33 = .ok (.imul, 1) := by decide +kernel
theorem dX5_third_34 : decode cX5_third 34 = .ok (.iload_n 0, 1) := by decide +kernel
theorem dX5_third_35 : decode cX5_third 35 = .ok (.iload_n 1, 1) := by decide +kernel
theorem dX5_third_36 : decode cX5_third 36 = .ok (.iadd, 1) := by decide +kernel
theorem dX5_third_37 : decode cX5_third 37 = .ok (.iload_n 3, 1) := by decide +kernel
theorem dX5_third_38 : decode cX5_third 38 = .ok (.ifCond .eq 7, 3) := by decide +kernel
theorem dX5_third_41 : decode cX5_third 41 = .ok (.iconst 0, 1) := by decide +kernel
theorem dX5_third_42 : decode cX5_third 42 = .ok (.goto 4, 3) := by decide +kernel
theorem dX5_third_45 : decode cX5_third 45 = .ok (.iconst 1, 1) := by decide +kernel
theorem dX5_third_46 : decode cX5_third 46 = .ok (.iadd, 1) := by decide +kernel
theorem dX5_third_47 : decode cX5_third 47 = .ok (.iconst 2, 1) := by decide +kernel
theorem dX5_third_48 : decode cX5_third 48 = .ok (.irem, 1) := by decide +kernel
theorem dX5_third_49 : decode cX5_third 49 = .ok (.iadd, 1) := by decide +kernel
theorem dX5_third_50 : decode cX5_third 50 = .ok (.ireturn, 1) := by decide +kernel
set_option maxRecDepth 20000 in
theorem ggX5_isDue_X5_third : GoodIn wsX5_isDue wsX5_third := goodIn_r _ [4] (by decide +kernel) (by decide +kernel)
set_option maxRecDepth 20000 in
theorem gX5_isDue_X5_third : GoodIn wsX5_isDue (va_wsS RX5 107 yX5_third wsX5_third) := goodIn_app (goodIn_r _ [1, 2, 3] (by decide +kernel) (by decide +kernel)) ggX5_isDue_X5_third
theorem dX5_isDue_0 : decode cX5_isDue 0 = .ok (.iload_n 0, 1) := by decide +kernel
theorem dX5_isDue_1 : decode cX5_isDue 1 = .ok (.iconst 2, 1) := by decide +kernel
theorem dX5_isDue_2 : decode cX5_isDue 2 = .ok (.idiv, 1) := by decide +kernel
theorem dX5_isDue_3 : decode cX5_isDue 3 = .ok (.iload_n 1, 1) := by decide +kernel
theorem dX5_isDue_4 : decode cX5_isDue 4 = .ok (.iconst 2, 1) := by decide +kernel
theorem dX5_isDue_5 : decode cX5_isDue 5 = .ok (.idiv, 1) := by decide +kernel
theorem dX5_isDue_6 : decode cX5_isDue 6 = .ok (.if_icmp .ne 5, 3) := by decide +kernel
theorem dX5_isDue_9 : decode cX5_isDue 9 = .ok (.iconst 0, 1) := by decide +kernel
theorem dX5_isDue_10 : decode cX5_isDue 10 = .ok (.ireturn, 1) := by decide +kernel
theorem dX5_isDue_11 : decode cX5_isDue 11 = .ok (.iload_n 0, 1) := by decide +kernel
theorem dX5_isDue_12 : decode cX5_isDue 12 = .ok (.iload_n 1, 1) := by decide +kernel
theorem dX5_isDue_13 : decode cX5_isDue 13 = .ok (.invokestatic 107, 3) := by decide +kernel
theorem dX5_isDue_16 : decode cX5_isDue 16 = .ok (.istore_n 3, 1) := by decide +kernel
theorem dX5_isDue_17 : decode cX5_isDue 17 = .ok (.iload_n 2, 1) := by decide +kernel
theorem dX5_isDue_18 : decode cX5_isDue 18 = .ok (.iconst 3, 1) := by decide +kernel
theorem dX5_isDue_19 : decode cX5_isDue 19 = .ok (.if_icmp .eq 34, 3) := by decide +kernel
theorem dX5_isDue_22 : decode cX5_isDue 22 = .ok (.iload_n 2, 1) := by decide +kernel
theorem dX5_isDue_23 : decode cX5_isDue 23 = .ok (.iconst 2, 1) := by decide +kernel
theorem dX5_isDue_24 : decode cX5_isDue 24 = .ok (.if_icmp .ne 10, 3) := by decide +kernel
theorem dX5_isDue_27 : decode cX5_isDue 27 = .ok (.iload_n 3, 1) := by decide +kernel
theorem dX5_isDue_28 : decode cX5_isDue 28 = .ok (.iconst 2, 1) := by decide +kernel
theorem dX5_isDue_29 : decode cX5_isDue 29 = .ok (.idiv, 1) := by decide +kernel
theorem dX5_isDue_30 : decode cX5_isDue 30 = .ok (.iconst 2, 1) := by decide +kernel
theorem dX5_isDue_31 : decode cX5_isDue 31 = .ok (.if_icmp .eq 22, 3) := by decide +kernel
theorem dX5_isDue_34 : decode cX5_isDue 34 = .ok (.iload_n 2, 1) := by decide +kernel
theorem dX5_isDue_35 : decode cX5_isDue 35 = .ok (.iconst 1, 1) := by decide +kernel
theorem dX5_isDue_36 : decode cX5_isDue 36 = .ok (.if_icmp .ne 8, 3) := by decide +kernel
theorem dX5_isDue_39 : decode cX5_isDue 39 = .ok (.iload_n 3, 1) := by decide +kernel
theorem dX5_isDue_40 : decode cX5_isDue 40 = .ok (.iconst 4, 1) := by decide +kernel
theorem dX5_isDue_41 : decode cX5_isDue 41 = .ok (.if_icmp .eq 12, 3) := by decide +kernel
theorem dX5_isDue_44 : decode cX5_isDue 44 = .ok (.iload_n 0, 1) := by decide +kernel
theorem dX5_isDue_45 : decode cX5_isDue 45 = .ok (.ifCond .ne 12, 3) := by decide +kernel
theorem dX5_isDue_48 : decode cX5_isDue 48 = .ok (.iload_n 1, 1) := by decide +kernel
theorem dX5_isDue_49 : decode cX5_isDue 49 = .ok (.iconst 2, 1) := by decide +kernel
theorem dX5_isDue_50 : decode cX5_isDue 50 = .ok (.if_icmp .ne 7, 3) := by decide +kernel
theorem dX5_isDue_53 : decode cX5_isDue 53 = .ok (.iconst 1, 1) := by decide +kernel
theorem dX5_isDue_54 : decode cX5_isDue 54 = .ok (.goto 4, 3) := by decide +kernel
theorem dX5_isDue_57 : decode cX5_isDue 57 = .ok (.iconst 0, 1) := by decide +kernel
theorem dX5_isDue_58 : decode cX5_isDue 58 = .ok (.ireturn, 1) := by decide +kernel
set_option maxRecDepth 20000 in
theorem ggX5_placed_X5_third : GoodIn wsX5_placed wsX5_third := goodIn_r _ [6] (by decide +kernel) (by decide +kernel)
set_option maxRecDepth 20000 in
theorem gX5_placed_X5_third : GoodIn wsX5_placed (va_wsS RX5 107 yX5_third wsX5_third) := goodIn_app (goodIn_r _ [3, 4, 5] (by decide +kernel) (by decide +kernel)) ggX5_placed_X5_third
set_option maxRecDepth 20000 in
theorem ggX5_placed_X5_turned : GoodIn wsX5_placed wsX5_turned := goodIn_r _ [9] (by decide +kernel) (by decide +kernel)
set_option maxRecDepth 20000 in
theorem gX5_placed_X5_turned : GoodIn wsX5_placed (va_wsS RX5 111 yX5_turned wsX5_turned) := goodIn_app (goodIn_r _ [7, 8, 5] (by decide +kernel) (by decide +kernel)) ggX5_placed_X5_turned
