theorem dX12_withBoards_52 : decode cX12_withBoards 52 = .ok (.dup, 1) := by decide +kernel
theorem dX12_withBoards_53 : decode cX12_withBoards 53 = .ok (.getfield 37, 3) := by decide +kernel
theorem dX12_withBoards_56 : decode cX12_withBoards 56 = .ok (.iconst 1, 1) := by decide +kernel
theorem dX12_withBoards_57 : decode cX12_withBoards 57 = .ok (.iadd, 1) := by decide +kernel
theorem dX12_withBoards_58 : decode cX12_withBoards 58 = .ok (.putfield 37, 3) := by decide +kernel
theorem dX12_withBoards_61 : decode cX12_withBoards 61 = .ok (.aload_n 0, 1) := by decide +kernel
theorem dX12_withBoards_62 : decode cX12_withBoards 62 = .ok (.iload_n 1, 1) := by decide +kernel
theorem dX12_withBoards_63 : decode cX12_withBoards 63 = .ok (.iload_n 2, 1) := by decide +kernel
theorem dX12_withBoards_64 : decode cX12_withBoards 64 = .ok (.invokevirtual 225, 3) := by decide +kernel
theorem dX12_withBoards_67 : decode cX12_withBoards 67 = .ok (.istore 5, 2) := by decide +kernel
theorem dX12_withBoards_69 : decode cX12_withBoards 69 = .ok (.iconst 0, 1) := by decide +kernel
theorem dX12_withBoards_70 : decode cX12_withBoards 70 = .ok (.istore 6, 2) := by decide +kernel
theorem dX12_withBoards_72 : decode cX12_withBoards 72 = .ok (.iload 6, 2) := by decide +kernel
theorem dX12_withBoards_74 : decode cX12_withBoards 74 = .ok (.bipush 10, 2) := by decide +kernel
theorem dX12_withBoards_76 : decode cX12_withBoards 76 = .ok (.if_icmp .ge 43, 3) := by decide +kernel
theorem dX12_withBoards_79 : decode cX12_withBoards 79 = .ok (.aload_n 0, 1) := by decide +kernel
theorem dX12_withBoards_80 : decode cX12_withBoards 80 = .ok (.getfield 9, 3) := by decide +kernel
theorem dX12_withBoards_83 : decode cX12_withBoards 83 = .ok (.bipush 28, 2) := by decide +kernel
theorem dX12_withBoards_85 : decode cX12_withBoards 85 = .ok (.iload 6, 2) := by decide +kernel
theorem dX12_withBoards_87 : decode cX12_withBoards 87 = .ok (.iadd, 1) := by decide +kernel
theorem dX12_withBoards_88 : decode cX12_withBoards 88 = .ok (.iload_n 3, 1) := by decide +kernel
theorem dX12_withBoards_89 : decode cX12_withBoards 89 = .ok (.iload 6, 2) := by decide +kernel
theorem dX12_withBoards_91 : decode cX12_withBoards 91 = .ok (.ishr, 1) := by decide +kernel
theorem dX12_withBoards_92 : decode cX12_withBoards 92 = .ok (.iconst 1, 1) := by decide +kernel
theorem dX12_withBoards_93 : decode cX12_withBoards 93 = .ok (.iand, 1) := by decide +kernel
theorem dX12_withBoards_94 : decode cX12_withBoards 94 = .ok (.iconst 1, 1) := by decide +kernel
theorem dX12_withBoards_95 : decode cX12_withBoards 95 = .ok (.if_icmp .ne 7, 3) := by decide +kernel
theorem dX12_withBoards_98 : decode cX12_withBoards 98 = .ok (.iconst 0, 1) := by decide +kernel
theorem dX12_withBoards_99 : decode cX12_withBoards 99 = .ok (.goto 13, 3) := by decide +kernel
theorem dX12_withBoards_102 : decode cX12_withBoards 102 = .ok (.aload_n 0, 1) := by decide +kernel
theorem dX12_withBoards_103 : decode cX12_withBoards 103 = .ok (.getfield 9, 3) := by decide +kernel
theorem dX12_withBoards_106 : decode cX12_withBoards 106 = .ok (.bipush 28, 2) := by decide +kernel
theorem dX12_withBoards_108 : decode cX12_withBoards 108 = .ok (.iload 6, 2) := by decide +kernel
theorem dX12_withBoards_110 : decode cX12_withBoards 110 = .ok (.iadd, 1) := by decide +kernel
theorem dX12_withBoards_111 : decode cX12_withBoards 111 = .ok (.iaload, 1) := by decide +kernel
theorem dX12_withBoards_112 : decode cX12_withBoards 112 = .ok (.iastore, 1) := by decide +kernel
theorem dX12_withBoards_113 : decode cX12_withBoards 113 = .ok (.iinc 6 1, 3) := by decide +kernel
theorem dX12_withBoards_116 : decode cX12_withBoards 116 = .ok (.goto (-44), 3) := by decide +kernel
theorem dX12_withBoards_119 : decode cX12_withBoards 119 = .ok (.aload_n 0, 1) := by decide +kernel
theorem dX12_withBoards_120 : decode cX12_withBoards 120 = .ok (.dup, 1) := by decide +kernel
theorem dX12_withBoards_121 : decode cX12_withBoards 121 = .ok (.getfield 37, 3) := by decide +kernel
theorem dX12_withBoards_124 : decode cX12_withBoards 124 = .ok (.iconst 1, 1) := by decide +kernel
theorem dX12_withBoards_125 : decode cX12_withBoards 125 = .ok (.iadd, 1) := by decide +kernel
theorem dX12_withBoards_126 : decode cX12_withBoards 126 = .ok (.putfield 37, 3) := by decide +kernel
theorem dX12_withBoards_129 : decode cX12_withBoards 129 = .ok (.iload 5, 2) := by decide +kernel
theorem dX12_withBoards_131 : decode cX12_withBoards 131 = .ok (.ireturn, 1) := by decide +kernel
set_option maxRecDepth 20000 in
theorem ggX12_boards_X12_isMan : GoodIn wsX12_boards wsX12_isMan := goodIn_r _ [5, 6, 7, 8, 4, 9, 98, 99, 100, 101, 102, 103, 104, 105, 106, 107, 108, 109, 110, 111, 112, 113, 114, 115, 116, 117, 118, 119, 120, 121, 122, 123, 124, 125, 126, 127] (by decide +kernel) (by decide +kernel)
set_option maxRecDepth 20000 in
theorem gX12_boards_X12_isMan : GoodIn wsX12_boards (wsV RX12 148 RX12 yX12_isMan wsX12_isMan) := goodIn_app (goodIn_of _ (by decide +kernel)) ggX12_boards_X12_isMan
set_option maxRecDepth 20000 in
theorem ggX12_boards_X12_in : GoodIn wsX12_boards wsX12_in := goodIn_r _ [9] (by decide +kernel) (by decide +kernel)
set_option maxRecDepth 20000 in
theorem gX12_boards_X12_in : GoodIn wsX12_boards (va_wsS RX12 53 yX12_in wsX12_in) := goodIn_app (goodIn_of _ (by decide +kernel)) ggX12_boards_X12_in
set_option maxRecDepth 20000 in
theorem ggX12_boards_X12_isLoad : GoodIn wsX12_boards wsX12_isLoad := goodIn_r _ [12, 7, 8, 4, 9] (by decide +kernel) (by decide +kernel)
set_option maxRecDepth 20000 in
theorem gX12_boards_X12_isLoad : GoodIn wsX12_boards (va_wsS RX12 206 yX12_isLoad wsX12_isLoad) := goodIn_app (goodIn_of _ (by decide +kernel)) ggX12_boards_X12_isLoad
set_option maxRecDepth 20000 in
theorem ggX12_boards_X12_bare : GoodIn wsX12_boards wsX12_bare := goodIn_r _ [16, 6, 98, 99, 100, 101, 102, 103, 104, 105, 106, 107, 108, 109, 110, 111, 112, 113, 114, 115, 116, 117, 118, 119, 120, 121, 122, 123, 124, 125, 126, 127] (by decide +kernel) (by decide +kernel)
set_option maxRecDepth 20000 in
theorem gX12_boards_X12_bare : GoodIn wsX12_boards (wsV RX12 228 RX12 yX12_bare wsX12_bare) := goodIn_app (goodIn_of _ (by decide +kernel)) ggX12_boards_X12_bare
set_option maxRecDepth 20000 in
theorem ggX12_boards_X12_count1 : GoodIn wsX12_boards wsX12_count1 := goodIn_r _ [19] (by decide +kernel) (by decide +kernel)
set_option maxRecDepth 20000 in
theorem gX12_boards_X12_count1 : GoodIn wsX12_boards (va_wsS RX12 231 yX12_count1 wsX12_count1) := goodIn_app (goodIn_of _ (by decide +kernel)) ggX12_boards_X12_count1
set_option maxRecDepth 20000 in
theorem ggX12_boards_X12_withBoards : GoodIn wsX12_boards wsX12_withBoards := goodIn_r _ [23, 6, 24, 25, 26, 27, 4, 28, 29, 30, 31, 32, 33, 34, 35, 36, 37, 38, 39, 40, 41, 42, 43, 44, 45, 46, 47, 48, 49, 50, 51, 52, 53, 54, 55, 56, 57, 7, 8, 9, 58, 59, 60, 61, 62, 63, 64, 65, 66, 67, 68, 69, 70, 71, 72, 73, 74, 75, 76, 77, 78, 79, 80, 81, 82, 83, 84, 85, 86, 87, 88, 89, 90, 91, 92, 93, 94, 95, 96, 97, 98, 99, 100, 101, 102, 103, 104, 105, 106, 107, 108, 109, 110, 111, 112, 113, 114, 115, 116, 117, 118, 119, 120, 121, 122, 123, 124, 125, 126, 127] (by decide +kernel) (by decide +kernel)
set_option maxRecDepth 20000 in
theorem gX12_boards_X12_withBoards : GoodIn wsX12_boards (wsV RX12 234 RX12 yX12_withBoards wsX12_withBoards) := goodIn_app (goodIn_of _ (by decide +kernel)) ggX12_boards_X12_withBoards
set_option maxRecDepth 20000 in
theorem ggX12_boards_X12_oneRound : GoodIn wsX12_boards wsX12_oneRound := goodIn_r _ [28, 29, 30, 31, 32, 4, 33, 34, 6, 35, 36, 37, 38, 39, 40, 41, 42, 43, 44, 45, 46, 47, 48, 49, 50, 51, 52, 53, 54, 55, 56, 57, 7, 8, 9, 58, 59, 60, 61, 62, 63, 64, 65, 66, 24, 67, 68, 69, 70, 71, 72, 73, 74, 75, 76, 77, 78, 79, 80, 81, 82, 83, 84, 85, 86, 87, 88, 89, 90, 91, 92, 93, 94, 95, 96, 97, 98, 99, 100, 101, 102, 103, 104, 105, 106, 107, 108, 109, 110, 111, 112, 113, 114, 115, 116, 117, 118, 119, 120, 121, 122, 123, 124, 125, 126, 127] (by decide +kernel) (by decide +kernel)
set_option maxRecDepth 20000 in
theorem gX12_boards_X12_oneRound : GoodIn wsX12_boards (wsV RX12 225 RX12 yX12_oneRound wsX12_oneRound) := goodIn_app (goodIn_of _ (by decide +kernel)) ggX12_boards_X12_oneRound
theorem dX12_boards_0 : decode cX12_boards 0 = .ok (.aload_n 0, 1) := by decide +kernel
theorem dX12_boards_1 : decode cX12_boards 1 = .ok (.iload_n 1, 1) := by decide +kernel
theorem dX12_boards_2 : decode cX12_boards 2 = .ok (.invokevirtual 148, 3) := by decide +kernel
theorem dX12_boards_5 : decode cX12_boards 5 = .ok (.ifCond .eq 13, 3) := by decide +kernel
theorem dX12_boards_8 : decode cX12_boards 8 = .ok (.iload 5, 2) := by decide +kernel
theorem dX12_boards_10 : decode cX12_boards 10 = .ok (.iconst 0, 1) := by decide +kernel
theorem dX12_boards_11 : decode cX12_boards 11 = .ok (.iconst 1, 1) := by decide +kernel
theorem dX12_boards_12 : decode cX12_boards 12 = .ok (.invokestatic 53, 3) := by decide +kernel
theorem dX12_boards_15 : decode cX12_boards 15 = .ok (.ifCond .ne 7, 3) := by decide +kernel
theorem dX12_boards_18 : decode cX12_boards 18 = .ok (.sipush (-1001), 3) := by decide +kernel
theorem dX12_boards_21 : decode cX12_boards 21 = .ok (.ireturn, 1) := by decide +kernel
theorem dX12_boards_22 : decode cX12_boards 22 = .ok (.iload_n 2, 1) := by decide +kernel
theorem dX12_boards_23 : decode cX12_boards 23 = .ok (.invokestatic 206, 3) := by decide +kernel
theorem dX12_boards_26 : decode cX12_boards 26 = .ok (.ifCond .eq 23, 3) := by decide +kernel
theorem dX12_boards_29 : decode cX12_boards 29 = .ok (.iload_n 3, 1) := by decide +kernel
theorem dX12_boards_30 : decode cX12_boards 30 = .ok (.iconst 1, 1) := by decide +kernel
theorem dX12_boards_31 : decode cX12_boards 31 = .ok (.iconst 3, 1) := by decide +kernel
theorem dX12_boards_32 : decode cX12_boards 32 = .ok (.invokestatic 53, 3) := by decide +kernel
theorem dX12_boards_35 : decode cX12_boards 35 = .ok (.ifCond .eq 14, 3) := by decide +kernel
theorem dX12_boards_38 : decode cX12_boards 38 = .ok (.iload 4, 2) := by decide +kernel
theorem dX12_boards_40 : decode cX12_boards 40 = .ok (.iconst 1, 1) := by decide +kernel
theorem dX12_boards_41 : decode cX12_boards 41 = .ok (.bipush 9, 2) := by decide +kernel
theorem dX12_boards_43 : decode cX12_boards 43 = .ok (.invokestatic 53, 3) := by decide +kernel
theorem dX12_boards_46 : decode cX12_boards 46 = .ok (.ifCond .ne 7, 3) := by decide +kernel
theorem dX12_boards_49 : decode cX12_boards 49 = .ok (.sipush (-1002), 3) := by decide +kernel
theorem dX12_boards_52 : decode cX12_boards 52 = .ok (.ireturn, 1) := by decide +kernel
theorem dX12_boards_53 : decode cX12_boards 53 = .ok (.aload_n 0, 1) := by decide +kernel
theorem dX12_boards_54 : decode cX12_boards 54 = .ok (.invokevirtual 228, 3) := by decide +kernel
theorem dX12_boards_57 : decode cX12_boards 57 = .ok (.istore 6, 2) := by decide +kernel
theorem dX12_boards_59 : decode cX12_boards 59 = .ok (.bipush (-5), 2) := by decide +kernel
theorem dX12_boards_61 : decode cX12_boards 61 = .ok (.istore 7, 2) := by decide +kernel
theorem dX12_boards_63 : decode cX12_boards 63 = .ok (.iconst 0, 1) := by decide +kernel
theorem dX12_boards_64 : decode cX12_boards 64 = .ok (.istore 8, 2) := by decide +kernel
theorem dX12_boards_66 : decode cX12_boards 66 = .ok (.iconst 1, 1) := by decide +kernel
theorem dX12_boards_67 : decode cX12_boards 67 = .ok (.istore 9, 2) := by decide +kernel
theorem dX12_boards_69 : decode cX12_boards 69 = .ok (.iload 9, 2) := by decide +kernel
theorem dX12_boards_71 : decode cX12_boards 71 = .ok (.sipush 1024, 3) := by decide +kernel
theorem dX12_boards_74 : decode cX12_boards 74 = .ok (.if_icmp .ge 89, 3) := by decide +kernel
theorem dX12_boards_77 : decode cX12_boards 77 = .ok (.iload 9, 2) := by decide +kernel
theorem dX12_boards_79 : decode cX12_boards 79 = .ok (.iload 6, 2) := by decide +kernel
theorem dX12_boards_81 : decode cX12_boards 81 = .ok (.iconst (-1), 1) := by decide +kernel
theorem dX12_boards_82 : decode cX12_boards 82 = .ok (.ixor, 1) := by decide +kernel
theorem dX12_boards_83 : decode cX12_boards 83 = .ok (.iand, 1) := by decide +kernel
theorem dX12_boards_84 : decode cX12_boards 84 = .ok (.ifCond .ne 73, 3) := by decide +kernel
theorem dX12_boards_87 : decode cX12_boards 87 = .ok (.iload 9, 2) := by decide +kernel
theorem dX12_boards_89 : decode cX12_boards 89 = .ok (.invokestatic 231, 3) := by decide +kernel
theorem dX12_boards_92 : decode cX12_boards 92 = .ok (.iload_n 3, 1) := by decide +kernel
theorem dX12_boards_93 : decode cX12_boards 93 = .ok (.if_icmp .ne 64, 3) := by decide +kernel
theorem dX12_boards_96 : decode cX12_boards 96 = .ok (.aload_n 0, 1) := by decide +kernel
theorem dX12_boards_97 : decode cX12_boards 97 = .ok (.iload_n 1, 1) := by decide +kernel
theorem dX12_boards_98 : decode cX12_boards 98 = .ok (.iload_n 2, 1) := by decide +kernel
theorem dX12_boards_99 : decode cX12_boards 99 = .ok (.iload 9, 2) := by decide +kernel
theorem dX12_boards_101 : decode cX12_boards 101 = .ok (.iload 4, 2) := by decide +kernel
theorem dX12_boards_103 : decode cX12_boards 103 = .ok (.invokevirtual 234, 3) := by decide +kernel
theorem dX12_boards_106 : decode cX12_boards 106 = .ok (.istore 10, 2) := by decide +kernel
theorem dX12_boards_108 : decode cX12_boards 108 = .ok (.iload 7, 2) := by decide +kernel
theorem dX12_boards_110 : decode cX12_boards 110 = .ok (.bipush (-5), 2) := by decide +kernel
theorem dX12_boards_112 : decode cX12_boards 112 = .ok (.if_icmp .eq 10, 3) := by decide +kernel
theorem dX12_boards_115 : decode cX12_boards 115 = .ok (.iload 10, 2) := by decide +kernel
theorem dX12_boards_117 : decode cX12_boards 117 = .ok (.iload 8, 2) := by decide +kernel
theorem dX12_boards_119 : decode cX12_boards 119 = .ok (.if_icmp .ge 7, 3) := by decide +kernel
theorem dX12_boards_122 : decode cX12_boards 122 = .ok (.iconst 1, 1) := by decide +kernel
theorem dX12_boards_123 : decode cX12_boards 123 = .ok (.goto 4, 3) := by decide +kernel
theorem dX12_boards_126 : decode cX12_boards 126 = .ok (.iconst 0, 1) := by decide +kernel
theorem dX12_boards_127 : decode cX12_boards 127 = .ok (.istore 11, 2) := by decide +kernel
theorem dX12_boards_129 : decode cX12_boards 129 = .ok (.iload 11, 2) := by decide +kernel
theorem dX12_boards_131 : decode cX12_boards 131 = .ok (.ifCond .eq 8, 3) := by decide +kernel
theorem dX12_boards_134 : decode cX12_boards 134 = .ok (.iload 9, 2) := by decide +kernel
theorem dX12_boards_136 : decode cX12_boards 136 = .ok (.goto 5, 3) := by decide +kernel
theorem dX12_boards_139 : decode cX12_boards 139 = .ok (.iload 7, 2) := by decide +kernel
theorem dX12_boards_141 : decode cX12_boards 141 = .ok (.istore 7, 2) := by decide +kernel
theorem dX12_boards_143 : decode cX12_boards 143 = .ok (.iload 11, 2) := by decide +kernel
theorem dX12_boards_145 : decode cX12_boards 145 = .ok (.ifCond .eq 8, 3) := by decide +kernel
theorem dX12_boards_148 : decode cX12_boards 148 = .ok (.iload 10, 2) := by decide +kernel
theorem dX12_boards_150 : decode cX12_boards 150 = .ok (.goto 5, 3) := by decide +kernel
theorem dX12_boards_153 : decode cX12_boards 153 = .ok (.iload 8, 2) := by decide +kernel
theorem dX12_boards_155 : decode cX12_boards 155 = .ok (.istore 8, 2) := by decide +kernel
theorem dX12_boards_157 : decode cX12_boards 157 = .ok (.iinc 9 1, 3) := by decide +kernel
theorem dX12_boards_160 : decode cX12_boards 160 = .ok (.goto (-91), 3) := by decide +kernel
theorem dX12_boards_163 : decode cX12_boards 163 = .ok (.iload 7, 2) := by decide +kernel
theorem dX12_boards_165 : decode cX12_boards 165 = .ok (.bipush (-5), 2) := by decide +kernel
theorem dX12_boards_167 : decode cX12_boards 167 = .ok (.if_icmp .eq 8, 3) := by decide +kernel
theorem dX12_boards_170 : decode cX12_boards 170 = .ok (.iload 5, 2) := by decide +kernel
theorem dX12_boards_172 : decode cX12_boards 172 = .ok (.ifCond .ne 8, 3) := by decide +kernel
theorem dX12_boards_175 : decode cX12_boards 175 = .ok (.iload 7, 2) := by decide +kernel
theorem dX12_boards_177 : decode cX12_boards 177 = .ok (.goto 12, 3) := by decide +kernel
theorem dX12_boards_180 : decode cX12_boards 180 = .ok (.aload_n 0, 1) := by decide +kernel
theorem dX12_boards_181 : decode cX12_boards 181 = .ok (.iload_n 1, 1) := by decide +kernel
theorem dX12_boards_182 : decode cX12_boards 182 = .ok (.iload_n 2, 1) := by decide +kernel
theorem dX12_boards_183 : decode cX12_boards 183 = .ok (.invokevirtual 225, 3) := by decide +kernel
theorem dX12_boards_186 : decode cX12_boards 186 = .ok (.iload 8, 2) := by decide +kernel
theorem dX12_boards_188 : decode cX12_boards 188 = .ok (.isub, 1) := by decide +kernel
theorem dX12_boards_189 : decode cX12_boards 189 = .ok (.ireturn, 1) := by decide +kernel
set_option maxRecDepth 20000 in
theorem ggX12_turns_X12_isMan : GoodIn wsX12_turns wsX12_isMan := goodIn_r _ [10, 11, 12, 13, 9, 14, 85, 86, 87, 88, 89, 90, 91, 92, 93, 94, 95, 96, 97, 98, 99, 100, 101, 102, 103, 104, 105, 106, 107, 108, 109, 110, 111, 112, 113, 114] (by decide +kernel) (by decide +kernel)
set_option maxRecDepth 20000 in
theorem gX12_turns_X12_isMan : GoodIn wsX12_turns (wsV RX12 148 RX12 yX12_isMan wsX12_isMan) := goodIn_app (goodIn_of _ (by decide +kernel)) ggX12_turns_X12_isMan
set_option maxRecDepth 20000 in
theorem ggX12_turns_X12_isLoad : GoodIn wsX12_turns wsX12_isLoad := goodIn_r _ [17, 12, 13, 9, 14] (by decide +kernel) (by decide +kernel)
set_option maxRecDepth 20000 in
theorem gX12_turns_X12_isLoad : GoodIn wsX12_turns (va_wsS RX12 206 yX12_isLoad wsX12_isLoad) := goodIn_app (goodIn_of _ (by decide +kernel)) ggX12_turns_X12_isLoad
set_option maxRecDepth 20000 in
theorem ggX12_turns_X12_in : GoodIn wsX12_turns wsX12_in := goodIn_r _ [14] (by decide +kernel) (by decide +kernel)
set_option maxRecDepth 20000 in
theorem gX12_turns_X12_in : GoodIn wsX12_turns (va_wsS RX12 53 yX12_in wsX12_in) := goodIn_app (goodIn_of _ (by decide +kernel)) ggX12_turns_X12_in
set_option maxRecDepth 20000 in
theorem ggX12_turns_X12_keeps : GoodIn wsX12_turns wsX12_keeps := goodIn_r _ [21, 22, 11, 85, 86, 87, 88, 89, 90, 91, 92, 93, 94, 95, 96, 97, 98, 99, 100, 101, 102, 103, 104, 105, 106, 107, 108, 109, 110, 111, 112, 113, 114] (by decide +kernel) (by decide +kernel)
set_option maxRecDepth 20000 in
theorem gX12_turns_X12_keeps : GoodIn wsX12_turns (wsV RX12 213 RX12 yX12_keeps wsX12_keeps) := goodIn_app (goodIn_of _ (by decide +kernel)) ggX12_turns_X12_keeps
set_option maxRecDepth 20000 in
theorem ggX12_turns_X12_goes : GoodIn wsX12_turns wsX12_goes := goodIn_r _ [26, 27, 11, 3, 4, 5, 28, 29, 30, 9, 31, 32, 33, 34, 35, 36, 37, 38, 39, 40, 41, 42, 43, 12, 13, 14, 44, 45, 46, 47, 48, 49, 50, 51, 52, 53, 54, 55, 56, 57, 58, 59, 60, 61, 62, 63, 64, 65, 66, 67, 68, 69, 70, 71, 72, 73, 74, 75, 76, 77, 78, 79, 80, 85, 86, 87, 88, 89, 90, 91, 92, 93, 94, 95, 96, 97, 98, 99, 100, 101, 102, 103, 104, 105, 106, 107, 108, 109, 110, 111, 112, 113, 114] (by decide +kernel) (by decide +kernel)
set_option maxRecDepth 20000 in
theorem gX12_turns_X12_goes : GoodIn wsX12_turns (wsV RX12 209 RX12 yX12_goes wsX12_goes) := goodIn_app (goodIn_of _ (by decide +kernel)) ggX12_turns_X12_goes
set_option maxRecDepth 20000 in
theorem ggX12_turns_X12_goesBackTo : GoodIn wsX12_turns wsX12_goesBackTo := goodIn_r _ [84, 53, 11, 22, 85, 86, 87, 88, 89, 90, 91, 92, 93, 94, 95, 96, 97, 98, 99, 100, 101, 102, 103, 104, 105, 106, 107, 108, 109, 110, 111, 112, 113, 114] (by decide +kernel) (by decide +kernel)
set_option maxRecDepth 20000 in
theorem gX12_turns_X12_goesBackTo : GoodIn wsX12_turns (wsV RX12 216 RX12 yX12_goesBackTo wsX12_goesBackTo) := goodIn_app (goodIn_of _ (by decide +kernel)) ggX12_turns_X12_goesBackTo
theorem dX12_turns_0 : decode cX12_turns 0 = .ok (.aload_n 0, 1) := by decide +kernel
theorem dX12_turns_1 : decode cX12_turns 1 = .ok (.iload_n 1, 1) := by decide +kernel
theorem dX12_turns_2 : decode cX12_turns 2 = .ok (.invokevirtual 148, 3) := by decide +kernel
theorem dX12_turns_5 : decode cX12_turns 5 = .ok (.ifCond .eq 11, 3) := by decide +kernel
theorem dX12_turns_8 : decode cX12_turns 8 = .ok (.aload_n 0, 1) := by decide +kernel
theorem dX12_turns_9 : decode cX12_turns 9 = .ok (.iload_n 2, 1) := by decide +kernel
theorem dX12_turns_10 : decode cX12_turns 10 = .ok (.invokevirtual 148, 3) := by decide +kernel
theorem dX12_turns_13 : decode cX12_turns 13 = .ok (.ifCond .ne 5, 3) := by decide +kernel
theorem dX12_turns_16 : decode cX12_turns 16 = .ok (.iconst (-1), 1) := by decide +kernel
theorem dX12_turns_17 : decode cX12_turns 17 = .ok (.ireturn, 1) := by decide +kernel
theorem dX12_turns_18 : decode cX12_turns 18 = .ok (.iload_n 1, 1) := by decide +kernel
theorem dX12_turns_19 : decode cX12_turns 19 = .ok (.iload_n 2, 1) := by decide +kernel
theorem dX12_turns_20 : decode cX12_turns 20 = .ok (.if_icmp .eq 22, 3) := by decide +kernel
theorem dX12_turns_23 : decode cX12_turns 23 = .ok (.iload_n 3, 1) := by decide +kernel
theorem dX12_turns_24 : decode cX12_turns 24 = .ok (.invokestatic 206, 3) := by decide +kernel
theorem dX12_turns_27 : decode cX12_turns 27 = .ok (.ifCond .eq 15, 3) := by decide +kernel
theorem dX12_turns_30 : decode cX12_turns 30 = .ok (.iload 4, 2) := by decide +kernel
theorem dX12_turns_32 : decode cX12_turns 32 = .ok (.iconst 0, 1) := by decide +kernel
theorem dX12_turns_33 : decode cX12_turns 33 = .ok (.sipush 999, 3) := by decide +kernel
theorem dX12_turns_36 : decode cX12_turns 36 = .ok (.invokestatic 53, 3) := by decide +kernel
theorem dX12_turns_39 : decode cX12_turns 39 = .ok (.ifCond .ne 6, 3) := by decide +kernel
theorem dX12_turns_42 : decode cX12_turns 42 = .ok (.bipush (-2), 2) := by decide +kernel
theorem dX12_turns_44 : decode cX12_turns 44 = .ok (.ireturn, 1) := by decide +kernel
theorem dX12_turns_45 : decode cX12_turns 45 = .ok (.aload_n 0, 1) := by decide +kernel
theorem dX12_turns_46 : decode cX12_turns 46 = .ok (.iconst 0, 1) := by decide +kernel
theorem dX12_turns_47 : decode cX12_turns 47 = .ok (.invokevirtual 213, 3) := by decide +kernel
theorem dX12_turns_50 : decode cX12_turns 50 = .ok (.iconst 0, 1) := by decide +kernel
theorem dX12_turns_51 : decode cX12_turns 51 = .ok (.istore 5, 2) := by decide +kernel
theorem dX12_turns_53 : decode cX12_turns 53 = .ok (.iconst 0, 1) := by decide +kernel
theorem dX12_turns_54 : decode cX12_turns 54 = .ok (.istore 6, 2) := by decide +kernel
theorem dX12_turns_56 : decode cX12_turns 56 = .ok (.iload 6, 2) := by decide +kernel
theorem dX12_turns_58 : decode cX12_turns 58 = .ok (.iconst 2, 1) := by decide +kernel
theorem dX12_turns_59 : decode cX12_turns 59 = .ok (.if_icmp .ge 25, 3) := by decide +kernel
theorem dX12_turns_62 : decode cX12_turns 62 = .ok (.aload_n 0, 1) := by decide +kernel
theorem dX12_turns_63 : decode cX12_turns 63 = .ok (.getfield 41, 3) := by decide +kernel
theorem dX12_turns_66 : decode cX12_turns 66 = .ok (.iload 6, 2) := by decide +kernel
theorem dX12_turns_68 : decode cX12_turns 68 = .ok (.iconst 0, 1) := by decide +kernel
theorem dX12_turns_69 : decode cX12_turns 69 = .ok (.iastore, 1) := by decide +kernel
theorem dX12_turns_70 : decode cX12_turns 70 = .ok (.aload_n 0, 1) := by decide +kernel
theorem dX12_turns_71 : decode cX12_turns 71 = .ok (.getfield 44, 3) := by decide +kernel
theorem dX12_turns_74 : decode cX12_turns 74 = .ok (.iload 6, 2) := by decide +kernel
theorem dX12_turns_76 : decode cX12_turns 76 = .ok (.iconst 0, 1) := by decide +kernel
theorem dX12_turns_77 : decode cX12_turns 77 = .ok (.iastore, 1) := by decide +kernel
theorem dX12_turns_78 : decode cX12_turns 78 = .ok (.iinc 6 1, 3) := by decide +kernel
theorem dX12_turns_81 : decode cX12_turns 81 = .ok (.goto (-25), 3) := by decide +kernel
theorem dX12_turns_84 : decode cX12_turns 84 = .ok (.iconst 0, 1) := by decide +kernel
theorem dX12_turns_85 : decode cX12_turns 85 = .ok (.istore 6, 2) := by decide +kernel
theorem dX12_turns_87 : decode cX12_turns 87 = .ok (.iconst 1, 1) := by decide +kernel
theorem dX12_turns_88 : decode cX12_turns 88 = .ok (.istore 7, 2) := by decide +kernel
theorem dX12_turns_90 : decode cX12_turns 90 = .ok (.iload 7, 2) := by decide +kernel
theorem dX12_turns_92 : decode cX12_turns 92 = .ok (.ifCond .eq 132, 3) := by decide +kernel
theorem dX12_turns_95 : decode cX12_turns 95 = .ok (.aload_n 0, 1) := by decide +kernel
theorem dX12_turns_96 : decode cX12_turns 96 = .ok (.getfield 41, 3) := by decide +kernel
theorem dX12_turns_99 : decode cX12_turns 99 = .ok (.iload 6, 2) := by decide +kernel
theorem dX12_turns_101 : decode cX12_turns 101 = .ok (.iaload, 1) := by decide +kernel
theorem dX12_turns_102 : decode cX12_turns 102 = .ok (.aload_n 0, 1) := by decide +kernel
theorem dX12_turns_103 : decode cX12_turns 103 = .ok (.getfield 44, 3) := by decide +kernel
theorem dX12_turns_106 : decode cX12_turns 106 = .ok (.iconst 1, 1) := by decide +kernel
theorem dX12_turns_107 : decode cX12_turns 107 = .ok (.iload 6, 2) := by decide +kernel
theorem dX12_turns_109 : decode cX12_turns 109 = .ok (.isub, 1) := by decide +kernel
theorem dX12_turns_110 : decode cX12_turns 110 = .ok (.iaload, 1) := by decide +kernel
theorem dX12_turns_111 : decode cX12_turns 111 = .ok (.if_icmp .le 13, 3) := by decide +kernel
theorem dX12_turns_114 : decode cX12_turns 114 = .ok (.aload_n 0, 1) := by decide +kernel
theorem dX12_turns_115 : decode cX12_turns 115 = .ok (.getfield 41, 3) := by decide +kernel
theorem dX12_turns_118 : decode cX12_turns 118 = .ok (.iload 6, 2) := by decide +kernel
theorem dX12_turns_120 : decode cX12_turns 120 = .ok (.iaload, 1) := by decide +kernel
theorem dX12_turns_121 : decode cX12_turns 121 = .ok (.goto 12, 3) := by decide +kernel
theorem dX12_turns_124 : decode cX12_turns 124 = .ok (.aload_n 0, 1) := by decide +kernel
theorem dX12_turns_125 : decode cX12_turns 125 = .ok (.getfield 44, 3) := by decide +kernel
theorem dX12_turns_128 : decode cX12_turns 128 = .ok (.iconst 1, 1) := by decide +kernel
theorem dX12_turns_129 : decode cX12_turns 129 = .ok (.iload 6, 2) := by decide +kernel
theorem dX12_turns_131 : decode cX12_turns 131 = .ok (.isub, 1) := by decide +kernel
theorem dX12_turns_132 : decode cX12_turns 132 = .ok (.iaload, 1) := by decide +kernel
theorem dX12_turns_133 : decode cX12_turns 133 = .ok (.istore 8, 2) := by decide +kernel
theorem dX12_turns_135 : decode cX12_turns 135 = .ok (.aload_n 0, 1) := by decide +kernel
theorem dX12_turns_136 : decode cX12_turns 136 = .ok (.iload 6, 2) := by decide +kernel
theorem dX12_turns_138 : decode cX12_turns 138 = .ok (.ifCond .ne 7, 3) := by decide +kernel
theorem dX12_turns_141 : decode cX12_turns 141 = .ok (.iload_n 1, 1) := by decide +kernel
theorem dX12_turns_142 : decode cX12_turns 142 = .ok (.goto 4, 3) := by decide +kernel
theorem dX12_turns_145 : decode cX12_turns 145 = .ok (.iload_n 2, 1) := by decide +kernel
theorem dX12_turns_146 : decode cX12_turns 146 = .ok (.iload_n 3, 1) := by decide +kernel
theorem dX12_turns_147 : decode cX12_turns 147 = .ok (.invokevirtual 209, 3) := by decide +kernel
theorem dX12_turns_150 : decode cX12_turns 150 = .ok (.aload_n 0, 1) := by decide +kernel
theorem dX12_turns_151 : decode cX12_turns 151 = .ok (.getfield 44, 3) := by decide +kernel
theorem dX12_turns_154 : decode cX12_turns 154 = .ok (.iload 6, 2) := by decide +kernel
theorem dX12_turns_156 : decode cX12_turns 156 = .ok (.iload 8, 2) := by decide +kernel
theorem dX12_turns_158 : decode cX12_turns 158 = .ok (.aload_n 0, 1) := by decide +kernel
theorem dX12_turns_159 : decode cX12_turns 159 = .ok (.getfield 184, 3) := by decide +kernel
theorem dX12_turns_162 : decode cX12_turns 162 = .ok (.iadd, 1) := by decide +kernel
theorem dX12_turns_163 : decode cX12_turns 163 = .ok (.iastore, 1) := by decide +kernel
theorem dX12_turns_164 : decode cX12_turns 164 = .ok (.aload_n 0, 1) := by decide +kernel
theorem dX12_turns_165 : decode cX12_turns 165 = .ok (.getfield 41, 3) := by decide +kernel
theorem dX12_turns_168 : decode cX12_turns 168 = .ok (.iload 6, 2) := by decide +kernel
theorem dX12_turns_170 : decode cX12_turns 170 = .ok (.iload 8, 2) := by decide +kernel
theorem dX12_turns_172 : decode cX12_turns 172 = .ok (.aload_n 0, 1) := by decide +kernel
theorem dX12_turns_173 : decode cX12_turns 173 = .ok (.getfield 187, 3) := by decide +kernel
theorem dX12_turns_176 : decode cX12_turns 176 = .ok (.iadd, 1) := by decide +kernel
theorem dX12_turns_177 : decode cX12_turns 177 = .ok (.iastore, 1) := by decide +kernel
theorem dX12_turns_178 : decode cX12_turns 178 = .ok (.aload_n 0, 1) := by decide +kernel
theorem dX12_turns_179 : decode cX12_turns 179 = .ok (.getfield 41, 3) := by decide +kernel
theorem dX12_turns_182 : decode cX12_turns 182 = .ok (.iload 6, 2) := by decide +kernel
theorem dX12_turns_184 : decode cX12_turns 184 = .ok (.iaload, 1) := by decide +kernel
theorem dX12_turns_185 : decode cX12_turns 185 = .ok (.iload 4, 2) := by decide +kernel
theorem dX12_turns_187 : decode cX12_turns 187 = .ok (.if_icmp .gt 7, 3) := by decide +kernel
theorem dX12_turns_190 : decode cX12_turns 190 = .ok (.iconst 1, 1) := by decide +kernel
theorem dX12_turns_191 : decode cX12_turns 191 = .ok (.goto 4, 3) := by decide +kernel
theorem dX12_turns_194 : decode cX12_turns 194 = .ok (.iconst 0, 1) := by decide +kernel
theorem dX12_turns_195 : decode cX12_turns 195 = .ok (.istore 7, 2) := by decide +kernel
theorem dX12_turns_197 : decode cX12_turns 197 = .ok (.iload 5, 2) := by decide +kernel
theorem dX12_turns_199 : decode cX12_turns 199 = .ok (.iload 7, 2) := by decide +kernel
theorem dX12_turns_201 : decode cX12_turns 201 = .ok (.ifCond .eq 10, 3) := by decide +kernel
theorem dX12_turns_204 : decode cX12_turns 204 = .ok (.aload_n 0, 1) := by decide +kernel
theorem dX12_turns_205 : decode cX12_turns 205 = .ok (.getfield 197, 3) := by decide +kernel
theorem dX12_turns_208 : decode cX12_turns 208 = .ok (.goto 4, 3) := by decide +kernel
theorem dX12_turns_211 : decode cX12_turns 211 = .ok (.iconst 0, 1) := by decide +kernel
theorem dX12_turns_212 : decode cX12_turns 212 = .ok (.iadd, 1) := by decide +kernel
theorem dX12_turns_213 : decode cX12_turns 213 = .ok (.istore 5, 2) := by decide +kernel
theorem dX12_turns_215 : decode cX12_turns 215 = .ok (.iconst 1, 1) := by decide +kernel
theorem dX12_turns_216 : decode cX12_turns 216 = .ok (.iload 6, 2) := by decide +kernel
theorem dX12_turns_218 : decode cX12_turns 218 = .ok (.isub, 1) := by decide +kernel
theorem dX12_turns_219 : decode cX12_turns 219 = .ok (.istore 6, 2) := by decide +kernel
theorem dX12_turns_221 : decode cX12_turns 221 = .ok (.goto (-131), 3) := by decide +kernel
theorem dX12_turns_224 : decode cX12_turns 224 = .ok (.aload_n 0, 1) := by decide +kernel
theorem dX12_turns_225 : decode cX12_turns 225 = .ok (.iconst 0, 1) := by decide +kernel
theorem dX12_turns_226 : decode cX12_turns 226 = .ok (.invokevirtual 216, 3) := by decide +kernel
theorem dX12_turns_229 : decode cX12_turns 229 = .ok (.iload 5, 2) := by decide +kernel
theorem dX12_turns_231 : decode cX12_turns 231 = .ok (.ireturn, 1) := by decide +kernel
set_option maxRecDepth 20000 in
theorem ggX12_byAll_X12_keeps : GoodIn wsX12_byAll wsX12_keeps := goodIn_r _ [6, 7, 1, 80, 81, 82, 83, 84, 85, 86, 87, 88, 89, 90, 91, 92, 93, 94, 95, 96, 97, 98, 99, 100, 101, 102, 103, 104, 105, 106, 107, 108, 109] (by decide +kernel) (by decide +kernel)
set_option maxRecDepth 20000 in
theorem gX12_byAll_X12_keeps : GoodIn wsX12_byAll (wsV RX12 213 RX12 yX12_keeps wsX12_keeps) := goodIn_app (goodIn_of _ (by decide +kernel)) ggX12_byAll_X12_keeps
set_option maxRecDepth 20000 in
theorem ggX12_byAll_X12_goesBy : GoodIn wsX12_byAll wsX12_goesBy := goodIn_r _ [11, 12, 13, 2, 3, 4, 5, 6, 7, 1, 14, 15, 16, 17, 18, 19, 20, 21, 22, 23, 24, 25, 26, 27, 28, 29, 30, 31, 32, 33, 34, 35, 36, 37, 38, 39, 40, 41, 42, 43, 44, 45, 46, 47, 48, 49, 50, 51, 52, 53, 54, 55, 56, 57, 58, 59, 60, 61, 62, 63, 64, 65, 66, 67, 68, 69, 70, 71, 72, 73, 74, 75, 76, 77, 78, 79, 80, 81, 82, 83, 84, 85, 86, 87, 88, 89, 90, 91, 92, 93, 94, 95, 96, 97, 98, 99, 100, 101, 102, 103, 104, 105, 106, 107, 108, 109] (by decide +kernel) (by decide +kernel)
set_option maxRecDepth 20000 in
theorem gX12_byAll_X12_goesBy : GoodIn wsX12_byAll (wsV RX12 219 RX12 yX12_goesBy wsX12_goesBy) := goodIn_app (goodIn_of _ (by decide +kernel)) ggX12_byAll_X12_goesBy
set_option maxRecDepth 20000 in
theorem ggX12_byAll_X12_goesBackTo : GoodIn wsX12_byAll wsX12_goesBackTo := goodIn_r _ [79, 48, 1, 7, 80, 81, 82, 83, 84, 85, 86, 87, 88, 89, 90, 91, 92, 93, 94, 95, 96, 97, 98, 99, 100, 101, 102, 103, 104, 105, 106, 107, 108, 109] (by decide +kernel) (by decide +kernel)
set_option maxRecDepth 20000 in
theorem gX12_byAll_X12_goesBackTo : GoodIn wsX12_byAll (wsV RX12 216 RX12 yX12_goesBackTo wsX12_goesBackTo) := goodIn_app (goodIn_of _ (by decide +kernel)) ggX12_byAll_X12_goesBackTo
theorem dX12_byAll_0 : decode cX12_byAll 0 = .ok (.aload_n 0, 1) := by decide +kernel
theorem dX12_byAll_1 : decode cX12_byAll 1 = .ok (.iconst 0, 1) := by decide +kernel
theorem dX12_byAll_2 : decode cX12_byAll 2 = .ok (.invokevirtual 213, 3) := by decide +kernel
theorem dX12_byAll_5 : decode cX12_byAll 5 = .ok (.iconst 0, 1) := by decide +kernel
theorem dX12_byAll_6 : decode cX12_byAll 6 = .ok (.istore_n 3, 1) := by decide +kernel
theorem dX12_byAll_7 : decode cX12_byAll 7 = .ok (.iconst 0, 1) := by decide +kernel
theorem dX12_byAll_8 : decode cX12_byAll 8 = .ok (.istore 4, 2) := by decide +kernel
theorem dX12_byAll_10 : decode cX12_byAll 10 = .ok (.iload 4, 2) := by decide +kernel
theorem dX12_byAll_12 : decode cX12_byAll 12 = .ok (.aload_n 0, 1) := by decide +kernel
theorem dX12_byAll_13 : decode cX12_byAll 13 = .ok (.getfield 9, 3) := by decide +kernel
theorem dX12_byAll_16 : decode cX12_byAll 16 = .ok (.bipush 38, 2) := by decide +kernel
theorem dX12_byAll_18 : decode cX12_byAll 18 = .ok (.iaload, 1) := by decide +kernel
theorem dX12_byAll_19 : decode cX12_byAll 19 = .ok (.if_icmp .ge 31, 3) := by decide +kernel
theorem dX12_byAll_22 : decode cX12_byAll 22 = .ok (.iload_n 3, 1) := by decide +kernel
theorem dX12_byAll_23 : decode cX12_byAll 23 = .ok (.iload 4, 2) := by decide +kernel
theorem dX12_byAll_25 : decode cX12_byAll 25 = .ok (.iload_n 1, 1) := by decide +kernel
theorem dX12_byAll_26 : decode cX12_byAll 26 = .ok (.if_icmp .ne 7, 3) := by decide +kernel
theorem dX12_byAll_29 : decode cX12_byAll 29 = .ok (.iconst 0, 1) := by decide +kernel
theorem dX12_byAll_30 : decode cX12_byAll 30 = .ok (.goto 12, 3) := by decide +kernel
theorem dX12_byAll_33 : decode cX12_byAll 33 = .ok (.aload_n 0, 1) := by decide +kernel
theorem dX12_byAll_34 : decode cX12_byAll 34 = .ok (.iload 4, 2) := by decide +kernel
theorem dX12_byAll_36 : decode cX12_byAll 36 = .ok (.bipush 10, 2) := by decide +kernel
theorem dX12_byAll_38 : decode cX12_byAll 38 = .ok (.iload_n 2, 1) := by decide +kernel
theorem dX12_byAll_39 : decode cX12_byAll 39 = .ok (.invokevirtual 219, 3) := by decide +kernel
theorem dX12_byAll_42 : decode cX12_byAll 42 = .ok (.iadd, 1) := by decide +kernel
theorem dX12_byAll_43 : decode cX12_byAll 43 = .ok (.istore_n 3, 1) := by decide +kernel
theorem dX12_byAll_44 : decode cX12_byAll 44 = .ok (.iinc 4 1, 3) := by decide +kernel
theorem dX12_byAll_47 : decode cX12_byAll 47 = .ok (.goto (-37), 3) := by decide +kernel
theorem dX12_byAll_50 : decode cX12_byAll 50 = .ok (.aload_n 0, 1) := by decide +kernel
theorem dX12_byAll_51 : decode cX12_byAll 51 = .ok (.iconst 0, 1) := by decide +kernel
theorem dX12_byAll_52 : decode cX12_byAll 52 = .ok (.invokevirtual 216, 3) := by decide +kernel
theorem dX12_byAll_55 : decode cX12_byAll 55 = .ok (.iload_n 3, 1) := by decide +kernel
theorem dX12_byAll_56 : decode cX12_byAll 56 = .ok (.ireturn, 1) := by decide +kernel
set_option maxRecDepth 20000 in
theorem ggX12_worth_X12_isMan : GoodIn wsX12_worth wsX12_isMan := goodIn_r _ [5, 6, 7, 8, 4, 9, 88, 89, 90, 91, 92, 93, 94, 95, 96, 97, 98, 99, 100, 101, 102, 103, 104, 105, 106, 107, 108, 109, 110, 111, 112, 113, 114, 115, 116, 117] (by decide +kernel) (by decide +kernel)
set_option maxRecDepth 20000 in
theorem gX12_worth_X12_isMan : GoodIn wsX12_worth (wsV RX12 148 RX12 yX12_isMan wsX12_isMan) := goodIn_app (goodIn_of _ (by decide +kernel)) ggX12_worth_X12_isMan
set_option maxRecDepth 20000 in
theorem ggX12_worth_X12_in : GoodIn wsX12_worth wsX12_in := goodIn_r _ [9] (by decide +kernel) (by decide +kernel)
set_option maxRecDepth 20000 in
theorem gX12_worth_X12_in : GoodIn wsX12_worth (va_wsS RX12 53 yX12_in wsX12_in) := goodIn_app (goodIn_of _ (by decide +kernel)) ggX12_worth_X12_in
set_option maxRecDepth 20000 in
theorem ggX12_worth_X12_byAll : GoodIn wsX12_worth wsX12_byAll := goodIn_r _ [13, 6, 14, 15, 16, 4, 17, 18, 19, 20, 21, 22, 23, 24, 25, 26, 27, 28, 29, 30, 31, 32, 33, 34, 35, 36, 37, 38, 39, 40, 41, 42, 43, 44, 45, 46, 7, 8, 9, 47, 48, 49, 50, 51, 52, 53, 54, 55, 56, 57, 58, 59, 60, 61, 62, 63, 64, 65, 66, 67, 68, 69, 70, 71, 72, 73, 74, 75, 76, 77, 78, 79, 80, 81, 82, 83, 84, 85, 86, 87, 88, 89, 90, 91, 92, 93, 94, 95, 96, 97, 98, 99, 100, 101, 102, 103, 104, 105, 106, 107, 108, 109, 110, 111, 112, 113, 114, 115, 116, 117] (by decide +kernel) (by decide +kernel)
set_option maxRecDepth 20000 in
theorem gX12_worth_X12_byAll : GoodIn wsX12_worth (wsV RX12 238 RX12 yX12_byAll wsX12_byAll) := goodIn_app (goodIn_of _ (by decide +kernel)) ggX12_worth_X12_byAll
theorem dX12_worth_0 : decode cX12_worth 0 = .ok (.aload_n 0, 1) := by decide +kernel
theorem dX12_worth_1 : decode cX12_worth 1 = .ok (.iload_n 1, 1) := by decide +kernel
theorem dX12_worth_2 : decode cX12_worth 2 = .ok (.invokevirtual 148, 3) := by decide +kernel
theorem dX12_worth_5 : decode cX12_worth 5 = .ok (.ifCond .ne 7, 3) := by decide +kernel
theorem dX12_worth_8 : decode cX12_worth 8 = .ok (.sipush (-1001), 3) := by decide +kernel
theorem dX12_worth_11 : decode cX12_worth 11 = .ok (.ireturn, 1) := by decide +kernel
theorem dX12_worth_12 : decode cX12_worth 12 = .ok (.iload_n 2, 1) := by decide +kernel
theorem dX12_worth_13 : decode cX12_worth 13 = .ok (.iconst 0, 1) := by decide +kernel
theorem dX12_worth_14 : decode cX12_worth 14 = .ok (.sipush 999, 3) := by decide +kernel
theorem dX12_worth_17 : decode cX12_worth 17 = .ok (.invokestatic 53, 3) := by decide +kernel
theorem dX12_worth_20 : decode cX12_worth 20 = .ok (.ifCond .eq 19, 3) := by decide +kernel
theorem dX12_worth_23 : decode cX12_worth 23 = .ok (.aload_n 0, 1) := by decide +kernel
theorem dX12_worth_24 : decode cX12_worth 24 = .ok (.iconst (-1), 1) := by decide +kernel
theorem dX12_worth_25 : decode cX12_worth 25 = .ok (.iload_n 2, 1) := by decide +kernel
theorem dX12_worth_26 : decode cX12_worth 26 = .ok (.invokevirtual 238, 3) := by decide +kernel
theorem dX12_worth_29 : decode cX12_worth 29 = .ok (.aload_n 0, 1) := by decide +kernel
theorem dX12_worth_30 : decode cX12_worth 30 = .ok (.iload_n 1, 1) := by decide +kernel
theorem dX12_worth_31 : decode cX12_worth 31 = .ok (.iload_n 2, 1) := by decide +kernel
theorem dX12_worth_32 : decode cX12_worth 32 = .ok (.invokevirtual 238, 3) := by decide +kernel
theorem dX12_worth_35 : decode cX12_worth 35 = .ok (.isub, 1) := by decide +kernel
theorem dX12_worth_36 : decode cX12_worth 36 = .ok (.goto 6, 3) := by decide +kernel
theorem dX12_worth_39 : decode cX12_worth 39 = .ok (.sipush (-1002), 3) := by decide +kernel
theorem dX12_worth_42 : decode cX12_worth 42 = .ok (.ireturn, 1) := by decide +kernel
set_option maxRecDepth 20000 in
theorem ggX12_pave_X12_isMan : GoodIn wsX12_pave wsX12_isMan := goodIn_r _ [7, 1, 8, 9, 6, 10, 87, 88, 89, 90, 91, 92, 93, 94, 95, 96, 97, 98, 99, 100, 101, 102, 103, 104, 105, 106, 107, 108, 109, 110, 111, 112, 113, 114, 115, 116] (by decide +kernel) (by decide +kernel)
set_option maxRecDepth 20000 in
theorem gX12_pave_X12_isMan : GoodIn wsX12_pave (wsV RX12 148 RX12 yX12_isMan wsX12_isMan) := goodIn_app (goodIn_of _ (by decide +kernel)) ggX12_pave_X12_isMan
set_option maxRecDepth 20000 in
theorem ggX12_pave_X12_isLoad : GoodIn wsX12_pave wsX12_isLoad := goodIn_r _ [13, 8, 9, 6, 10] (by decide +kernel) (by decide +kernel)
set_option maxRecDepth 20000 in
theorem gX12_pave_X12_isLoad : GoodIn wsX12_pave (va_wsS RX12 206 yX12_isLoad wsX12_isLoad) := goodIn_app (goodIn_of _ (by decide +kernel)) ggX12_pave_X12_isLoad
set_option maxRecDepth 20000 in
theorem ggX12_pave_X12_oneRound : GoodIn wsX12_pave wsX12_oneRound := goodIn_r _ [17, 18, 19, 20, 21, 6, 22, 23, 1, 24, 25, 26, 27, 28, 29, 30, 31, 32, 33, 34, 35, 36, 37, 38, 39, 40, 41, 42, 43, 44, 45, 46, 8, 9, 10, 47, 48, 49, 50, 51, 52, 53, 54, 55, 2, 56, 57, 58, 59, 60, 61, 62, 63, 64, 65, 66, 67, 68, 69, 70, 71, 72, 73, 74, 75, 76, 77, 78, 79, 80, 81, 82, 83, 84, 85, 86, 87, 88, 89, 90, 91, 92, 93, 94, 95, 96, 97, 98, 99, 100, 101, 102, 103, 104, 105, 106, 107, 108, 109, 110, 111, 112, 113, 114, 115, 116] (by decide +kernel) (by decide +kernel)
set_option maxRecDepth 20000 in
theorem gX12_pave_X12_oneRound : GoodIn wsX12_pave (wsV RX12 225 RX12 yX12_oneRound wsX12_oneRound) := goodIn_app (goodIn_of _ (by decide +kernel)) ggX12_pave_X12_oneRound
theorem dX12_pave_0 : decode cX12_pave 0 = .ok (.aload_n 0, 1) := by decide +kernel
theorem dX12_pave_1 : decode cX12_pave 1 = .ok (.iload_n 1, 1) := by decide +kernel
theorem dX12_pave_2 : decode cX12_pave 2 = .ok (.invokevirtual 148, 3) := by decide +kernel
theorem dX12_pave_5 : decode cX12_pave 5 = .ok (.ifCond .ne 5, 3) := by decide +kernel
theorem dX12_pave_8 : decode cX12_pave 8 = .ok (.iconst (-1), 1) := by decide +kernel
theorem dX12_pave_9 : decode cX12_pave 9 = .ok (.ireturn, 1) := by decide +kernel
theorem dX12_pave_10 : decode cX12_pave 10 = .ok (.iload_n 2, 1) := by decide +kernel
theorem dX12_pave_11 : decode cX12_pave 11 = .ok (.invokestatic 206, 3) := by decide +kernel
theorem dX12_pave_14 : decode cX12_pave 14 = .ok (.ifCond .ne 6, 3) := by decide +kernel
theorem dX12_pave_17 : decode cX12_pave 17 = .ok (.bipush (-2), 2) := by decide +kernel
theorem dX12_pave_19 : decode cX12_pave 19 = .ok (.ireturn, 1) := by decide +kernel
theorem dX12_pave_20 : decode cX12_pave 20 = .ok (.iconst (-1), 1) := by decide +kernel
theorem dX12_pave_21 : decode cX12_pave 21 = .ok (.istore_n 3, 1) := by decide +kernel
theorem dX12_pave_22 : decode cX12_pave 22 = .ok (.iconst 0, 1) := by decide +kernel
theorem dX12_pave_23 : decode cX12_pave 23 = .ok (.istore 4, 2) := by decide +kernel
theorem dX12_pave_25 : decode cX12_pave 25 = .ok (.iconst 0, 1) := by decide +kernel
theorem dX12_pave_26 : decode cX12_pave 26 = .ok (.istore 5, 2) := by decide +kernel
theorem dX12_pave_28 : decode cX12_pave 28 = .ok (.iload 5, 2) := by decide +kernel
theorem dX12_pave_30 : decode cX12_pave 30 = .ok (.bipush 10, 2) := by decide +kernel
theorem dX12_pave_32 : decode cX12_pave 32 = .ok (.if_icmp .ge 152, 3) := by decide +kernel
theorem dX12_pave_35 : decode cX12_pave 35 = .ok (.aload_n 0, 1) := by decide +kernel
theorem dX12_pave_36 : decode cX12_pave 36 = .ok (.getfield 9, 3) := by decide +kernel
theorem dX12_pave_39 : decode cX12_pave 39 = .ok (.bipush 8, 2) := by decide +kernel
theorem dX12_pave_41 : decode cX12_pave 41 = .ok (.iload 5, 2) := by decide +kernel
theorem dX12_pave_43 : decode cX12_pave 43 = .ok (.iadd, 1) := by decide +kernel
theorem dX12_pave_44 : decode cX12_pave 44 = .ok (.iaload, 1) := by decide +kernel
theorem dX12_pave_45 : decode cX12_pave 45 = .ok (.istore 6, 2) := by decide +kernel
theorem dX12_pave_47 : decode cX12_pave 47 = .ok (.aload_n 0, 1) := by decide +kernel
theorem dX12_pave_48 : decode cX12_pave 48 = .ok (.getfield 9, 3) := by decide +kernel
theorem dX12_pave_51 : decode cX12_pave 51 = .ok (.bipush 18, 2) := by decide +kernel
theorem dX12_pave_53 : decode cX12_pave 53 = .ok (.iload 5, 2) := by decide +kernel
theorem dX12_pave_55 : decode cX12_pave 55 = .ok (.iadd, 1) := by decide +kernel
theorem dX12_pave_56 : decode cX12_pave 56 = .ok (.iaload, 1) := by decide +kernel
theorem dX12_pave_57 : decode cX12_pave 57 = .ok (.istore 7, 2) := by decide +kernel
theorem dX12_pave_59 : decode cX12_pave 59 = .ok (.aload_n 0, 1) := by decide +kernel
theorem dX12_pave_60 : decode cX12_pave 60 = .ok (.getfield 9, 3) := by decide +kernel
theorem dX12_pave_63 : decode cX12_pave 63 = .ok (.bipush 8, 2) := by decide +kernel
theorem dX12_pave_65 : decode cX12_pave 65 = .ok (.iload 5, 2) := by decide +kernel
theorem dX12_pave_67 : decode cX12_pave 67 = .ok (.iadd, 1) := by decide +kernel
theorem dX12_pave_68 : decode cX12_pave 68 = .ok (.iconst 0, 1) := by decide +kernel
theorem dX12_pave_69 : decode cX12_pave 69 = .ok (.iastore, 1) := by decide +kernel
theorem dX12_pave_70 : decode cX12_pave 70 = .ok (.aload_n 0, 1) := by decide +kernel
theorem dX12_pave_71 : decode cX12_pave 71 = .ok (.getfield 9, 3) := by decide +kernel
theorem dX12_pave_74 : decode cX12_pave 74 = .ok (.bipush 18, 2) := by decide +kernel
theorem dX12_pave_76 : decode cX12_pave 76 = .ok (.iload 5, 2) := by decide +kernel
theorem dX12_pave_78 : decode cX12_pave 78 = .ok (.iadd, 1) := by decide +kernel
theorem dX12_pave_79 : decode cX12_pave 79 = .ok (.iconst 0, 1) := by decide +kernel
theorem dX12_pave_80 : decode cX12_pave 80 = .ok (.iastore, 1) := by decide +kernel
theorem dX12_pave_81 : decode cX12_pave 81 = .ok (.aload_n 0, 1) := by decide +kernel
theorem dX12_pave_82 : decode cX12_pave 82 = .ok (.dup, 1) := by decide +kernel
theorem dX12_pave_83 : decode cX12_pave 83 = .ok (.getfield 37, 3) := by decide +kernel
theorem dX12_pave_86 : decode cX12_pave 86 = .ok (.iconst 1, 1) := by decide +kernel
theorem dX12_pave_87 : decode cX12_pave 87 = .ok (.iadd, 1) := by decide +kernel
theorem dX12_pave_88 : decode cX12_pave 88 = .ok (.putfield 37, 3) := by decide +kernel
theorem dX12_pave_91 : decode cX12_pave 91 = .ok (.aload_n 0, 1) := by decide +kernel
theorem dX12_pave_92 : decode cX12_pave 92 = .ok (.iload_n 1, 1) := by decide +kernel
theorem dX12_pave_93 : decode cX12_pave 93 = .ok (.iload_n 2, 1) := by decide +kernel
theorem dX12_pave_94 : decode cX12_pave 94 = .ok (.invokevirtual 225, 3) := by decide +kernel
theorem dX12_pave_97 : decode cX12_pave 97 = .ok (.istore 8, 2) := by decide +kernel
theorem dX12_pave_99 : decode cX12_pave 99 = .ok (.aload_n 0, 1) := by decide +kernel
theorem dX12_pave_100 : decode cX12_pave 100 = .ok (.getfield 9, 3) := by decide +kernel
theorem dX12_pave_103 : decode cX12_pave 103 = .ok (.bipush 8, 2) := by decide +kernel
theorem dX12_pave_105 : decode cX12_pave 105 = .ok (.iload 5, 2) := by decide +kernel
theorem dX12_pave_107 : decode cX12_pave 107 = .ok (.iadd, 1) := by decide +kernel
theorem dX12_pave_108 : decode cX12_pave 108 = .ok (.iload 6, 2) := by decide +kernel
theorem dX12_pave_110 : decode cX12_pave 110 = .ok (.iastore, 1) := by decide +kernel
theorem dX12_pave_111 : decode cX12_pave 111 = .ok (.aload_n 0, 1) := by decide +kernel
theorem dX12_pave_112 : decode cX12_pave 112 = .ok (.getfield 9, 3) := by decide +kernel
theorem dX12_pave_115 : decode cX12_pave 115 = .ok (.bipush 18, 2) := by decide +kernel
theorem dX12_pave_117 : decode cX12_pave 117 = .ok (.iload 5, 2) := by decide +kernel
theorem dX12_pave_119 : decode cX12_pave 119 = .ok (.iadd, 1) := by decide +kernel
theorem dX12_pave_120 : decode cX12_pave 120 = .ok (.iload 7, 2) := by decide +kernel
theorem dX12_pave_122 : decode cX12_pave 122 = .ok (.iastore, 1) := by decide +kernel
theorem dX12_pave_123 : decode cX12_pave 123 = .ok (.aload_n 0, 1) := by decide +kernel
theorem dX12_pave_124 : decode cX12_pave 124 = .ok (.dup, 1) := by decide +kernel
theorem dX12_pave_125 : decode cX12_pave 125 = .ok (.getfield 37, 3) := by decide +kernel
theorem dX12_pave_128 : decode cX12_pave 128 = .ok (.iconst 1, 1) := by decide +kernel
theorem dX12_pave_129 : decode cX12_pave 129 = .ok (.iadd, 1) := by decide +kernel
theorem dX12_pave_130 : decode cX12_pave 130 = .ok (.putfield 37, 3) := by decide +kernel
theorem dX12_pave_133 : decode cX12_pave 133 = .ok (.iload_n 3, 1) := by decide +kernel
theorem dX12_pave_134 : decode cX12_pave 134 = .ok (.iconst (-1), 1) := by decide +kernel
theorem dX12_pave_135 : decode cX12_pave 135 = .ok (.if_icmp .eq 10, 3) := by decide +kernel
theorem dX12_pave_138 : decode cX12_pave 138 = .ok (.iload 8, 2) := by decide +kernel
theorem dX12_pave_140 : decode cX12_pave 140 = .ok (.iload 4, 2) := by decide +kernel
theorem dX12_pave_142 : decode cX12_pave 142 = .ok (.if_icmp .ge 7, 3) := by decide +kernel
theorem dX12_pave_145 : decode cX12_pave 145 = .ok (.iconst 1, 1) := by decide +kernel
theorem dX12_pave_146 : decode cX12_pave 146 = .ok (.goto 4, 3) := by decide +kernel
theorem dX12_pave_149 : decode cX12_pave 149 = .ok (.iconst 0, 1) := by decide +kernel
theorem dX12_pave_150 : decode cX12_pave 150 = .ok (.istore 9, 2) := by decide +kernel
theorem dX12_pave_152 : decode cX12_pave 152 = .ok (.iload 9, 2) := by decide +kernel
theorem dX12_pave_154 : decode cX12_pave 154 = .ok (.ifCond .eq 8, 3) := by decide +kernel
theorem dX12_pave_157 : decode cX12_pave 157 = .ok (.iload 5, 2) := by decide +kernel
theorem dX12_pave_159 : decode cX12_pave 159 = .ok (.goto 4, 3) := by decide +kernel
theorem dX12_pave_162 : decode cX12_pave 162 = .ok (.iload_n 3, 1) := by decide +kernel
theorem dX12_pave_163 : decode cX12_pave 163 = .ok (.istore_n 3, 1) := by decide +kernel
theorem dX12_pave_164 : decode cX12_pave 164 = .ok (.iload 9, 2) := by decide +kernel
theorem dX12_pave_166 : decode cX12_pave 166 = .ok (.ifCond .eq 8, 3) := by decide +kernel
theorem dX12_pave_169 : decode cX12_pave 169 = .ok (.iload 8, 2) := by decide +kernel
theorem dX12_pave_171 : decode cX12_pave 171 = .ok (.goto 5, 3) := by decide +kernel
theorem dX12_pave_174 : decode cX12_pave 174 = .ok (.iload 4, 2) := by decide +kernel
theorem dX12_pave_176 : decode cX12_pave 176 = .ok (.istore 4, 2) := by decide +kernel
theorem dX12_pave_178 : decode cX12_pave 178 = .ok (.iinc 5 1, 3) := by decide +kernel
theorem dX12_pave_181 : decode cX12_pave 181 = .ok (.goto (-153), 3) := by decide +kernel
theorem dX12_pave_184 : decode cX12_pave 184 = .ok (.iload_n 3, 1) := by decide +kernel
theorem dX12_pave_185 : decode cX12_pave 185 = .ok (.ireturn, 1) := by decide +kernel
theorem dX12_lowest_0 : decode cX12_lowest 0 = .ok (.lload_n 0, 1) := by decide +kernel
theorem dX12_lowest_1 : decode cX12_lowest 1 = .ok (.lstore 5, 2) := by decide +kernel
theorem dX12_lowest_3 : decode cX12_lowest 3 = .ok (.lload_n 2, 1) := by decide +kernel
theorem dX12_lowest_4 : decode cX12_lowest 4 = .ok (.lstore 7, 2) := by decide +kernel
theorem dX12_lowest_6 : decode cX12_lowest 6 = .ok (.lload 7, 2) := by decide +kernel
theorem dX12_lowest_8 : decode cX12_lowest 8 = .ok (.lconst 0, 1) := by decide +kernel
theorem dX12_lowest_9 : decode cX12_lowest 9 = .ok (.lcmp, 1) := by decide +kernel
theorem dX12_lowest_10 : decode cX12_lowest 10 = .ok (.ifCond .eq 21, 3) := by decide +kernel
theorem dX12_lowest_13 : decode cX12_lowest 13 = .ok (.lload 5, 2) := by decide +kernel
theorem dX12_lowest_15 : decode cX12_lowest 15 = .ok (.lload 7, 2) := by decide +kernel
theorem dX12_lowest_17 : decode cX12_lowest 17 = .ok (.lrem, 1) := by decide +kernel
theorem dX12_lowest_18 : decode cX12_lowest 18 = .ok (.lstore 9, 2) := by decide +kernel
theorem dX12_lowest_20 : decode cX12_lowest 20 = .ok (.lload 7, 2) := by decide +kernel
theorem dX12_lowest_22 : decode cX12_lowest 22 = .ok (.lstore 5, 2) := by decide +kernel
theorem dX12_lowest_24 : decode cX12_lowest 24 = .ok (.lload 9, 2) := by decide +kernel
theorem dX12_lowest_26 : decode cX12_lowest 26 = .ok (.lstore 7, 2) := by decide +kernel
theorem dX12_lowest_28 : decode cX12_lowest 28 = .ok (.goto (-22), 3) := by decide +kernel
theorem dX12_lowest_31 : decode cX12_lowest 31 = .ok (.iload 4, 2) := by decide +kernel
theorem dX12_lowest_33 : decode cX12_lowest 33 = .ok (.ifCond .ne 7, 3) := by decide +kernel
theorem dX12_lowest_36 : decode cX12_lowest 36 = .ok (.lload_n 0, 1) := by decide +kernel
theorem dX12_lowest_37 : decode cX12_lowest 37 = .ok (.goto 4, 3) := by decide +kernel
theorem dX12_lowest_40 : decode cX12_lowest 40 = .ok (.lload_n 2, 1) := by decide +kernel
theorem dX12_lowest_41 : decode cX12_lowest 41 = .ok (.lload 5, 2) := by decide +kernel
theorem dX12_lowest_43 : decode cX12_lowest 43 = .ok (.ldiv, 1) := by decide +kernel
theorem dX12_lowest_44 : decode cX12_lowest 44 = .ok (.lreturn, 1) := by decide +kernel
set_option maxRecDepth 20000 in
theorem ggX12_odds_X12_isMan : GoodIn wsX12_odds wsX12_isMan := goodIn_r _ [7, 8, 9, 10, 6, 11, 51, 52, 53, 54, 55, 56, 57, 58, 59, 60, 61, 62, 63, 64, 65, 66, 67, 68, 69, 70, 71, 72, 73, 74, 75, 76, 77, 78, 79, 80] (by decide +kernel) (by decide +kernel)
set_option maxRecDepth 20000 in
theorem gX12_odds_X12_isMan : GoodIn wsX12_odds (wsV RX12 148 RX12 yX12_isMan wsX12_isMan) := goodIn_app (goodIn_of _ (by decide +kernel)) ggX12_odds_X12_isMan
set_option maxRecDepth 20000 in
theorem ggX12_odds_X12_isLoad : GoodIn wsX12_odds wsX12_isLoad := goodIn_r _ [14, 9, 10, 6, 11] (by decide +kernel) (by decide +kernel)
set_option maxRecDepth 20000 in
theorem gX12_odds_X12_isLoad : GoodIn wsX12_odds (va_wsS RX12 206 yX12_isLoad wsX12_isLoad) := goodIn_app (goodIn_of _ (by decide +kernel)) ggX12_odds_X12_isLoad
set_option maxRecDepth 20000 in
theorem ggX12_odds_X12_in : GoodIn wsX12_odds wsX12_in := goodIn_r _ [11] (by decide +kernel) (by decide +kernel)
set_option maxRecDepth 20000 in
theorem gX12_odds_X12_in : GoodIn wsX12_odds (va_wsS RX12 53 yX12_in wsX12_in) := goodIn_app (goodIn_of _ (by decide +kernel)) ggX12_odds_X12_in
set_option maxRecDepth 20000 in
theorem ggX12_odds_X12_comes : GoodIn wsX12_odds wsX12_comes := goodIn_r _ [18, 8, 19, 20, 21, 6, 22, 51, 52, 53, 54, 55, 56, 57, 58, 59, 60, 61, 62, 63, 64, 65, 66, 67, 68, 69, 70, 71, 72, 73, 74, 75, 76, 77, 78, 79, 80] (by decide +kernel) (by decide +kernel)
set_option maxRecDepth 20000 in
theorem gX12_odds_X12_comes : GoodIn wsX12_odds (wsV RX12 181 RX12 yX12_comes wsX12_comes) := goodIn_app (goodIn_of _ (by decide +kernel)) ggX12_odds_X12_comes
set_option maxRecDepth 20000 in
theorem ggX12_odds_X12_lostIn : GoodIn wsX12_odds wsX12_lostIn := goodIn_r _ [26, 27, 8, 28, 29, 30, 6, 31, 32, 33, 34, 35, 36, 37, 38, 39, 40, 41, 42, 43, 44, 45, 46, 47, 51, 52, 53, 54, 55, 56, 57, 58, 59, 60, 61, 62, 63, 64, 65, 66, 67, 68, 69, 70, 71, 72, 73, 74, 75, 76, 77, 78, 79, 80] (by decide +kernel) (by decide +kernel)
set_option maxRecDepth 20000 in
theorem gX12_odds_X12_lostIn : GoodIn wsX12_odds (wsV RX12 194 RX12 yX12_lostIn wsX12_lostIn) := goodIn_app (goodIn_of _ (by decide +kernel)) ggX12_odds_X12_lostIn
set_option maxRecDepth 20000 in
theorem ggX12_odds_X12_lowest : GoodIn wsX12_odds wsX12_lowest := goodIn_r _ [50] (by decide +kernel) (by decide +kernel)
set_option maxRecDepth 20000 in
theorem gX12_odds_X12_lowest : GoodIn wsX12_odds (va_wsS RX12 245 yX12_lowest wsX12_lowest) := goodIn_app (goodIn_of _ (by decide +kernel)) ggX12_odds_X12_lowest
theorem dX12_odds_0 : decode cX12_odds 0 = .ok (.aload_n 0, 1) := by decide +kernel
theorem dX12_odds_1 : decode cX12_odds 1 = .ok (.iload_n 1, 1) := by decide +kernel
theorem dX12_odds_2 : decode cX12_odds 2 = .ok (.invokevirtual 148, 3) := by decide +kernel
theorem dX12_odds_5 : decode cX12_odds 5 = .ok (.ifCond .eq 30, 3) := by decide +kernel
theorem dX12_odds_8 : decode cX12_odds 8 = .ok (.iload_n 2, 1) := by decide +kernel
theorem dX12_odds_9 : decode cX12_odds 9 = .ok (.invokestatic 206, 3) := by decide +kernel
theorem dX12_odds_12 : decode cX12_odds 12 = .ok (.ifCond .eq 23, 3) := by decide +kernel
theorem dX12_odds_15 : decode cX12_odds 15 = .ok (.iload_n 3, 1) := by decide +kernel
theorem dX12_odds_16 : decode cX12_odds 16 = .ok (.iconst 0, 1) := by decide +kernel
theorem dX12_odds_17 : decode cX12_odds 17 = .ok (.bipush 10, 2) := by decide +kernel
theorem dX12_odds_19 : decode cX12_odds 19 = .ok (.invokestatic 53, 3) := by decide +kernel
theorem dX12_odds_22 : decode cX12_odds 22 = .ok (.ifCond .eq 13, 3) := by decide +kernel
theorem dX12_odds_25 : decode cX12_odds 25 = .ok (.iload 4, 2) := by decide +kernel
theorem dX12_odds_27 : decode cX12_odds 27 = .ok (.iconst 0, 1) := by decide +kernel
theorem dX12_odds_28 : decode cX12_odds 28 = .ok (.iconst 1, 1) := by decide +kernel
theorem dX12_odds_29 : decode cX12_odds 29 = .ok (.invokestatic 53, 3) := by decide +kernel
theorem dX12_odds_32 : decode cX12_odds 32 = .ok (.ifCond .ne 7, 3) := by decide +kernel
theorem dX12_odds_35 : decode cX12_odds 35 = .ok (.ldc2_w 241, 3) := by decide +kernel
theorem dX12_odds_38 : decode cX12_odds 38 = .ok (.lreturn, 1) := by decide +kernel
theorem dX12_odds_39 : decode cX12_odds 39 = .ok (.aload_n 0, 1) := by decide +kernel
theorem dX12_odds_40 : decode cX12_odds 40 = .ok (.iload_n 1, 1) := by decide +kernel
theorem dX12_odds_41 : decode cX12_odds 41 = .ok (.iload_n 2, 1) := by decide +kernel
theorem dX12_odds_42 : decode cX12_odds 42 = .ok (.invokevirtual 181, 3) := by decide +kernel
theorem dX12_odds_45 : decode cX12_odds 45 = .ok (.istore 5, 2) := by decide +kernel
theorem dX12_odds_47 : decode cX12_odds 47 = .ok (.lconst 1, 1) := by decide +kernel
theorem dX12_odds_48 : decode cX12_odds 48 = .ok (.lstore 6, 2) := by decide +kernel
theorem dX12_odds_50 : decode cX12_odds 50 = .ok (.lconst 1, 1) := by decide +kernel
theorem dX12_odds_51 : decode cX12_odds 51 = .ok (.lstore 8, 2) := by decide +kernel
theorem dX12_odds_53 : decode cX12_odds 53 = .ok (.iconst 0, 1) := by decide +kernel
theorem dX12_odds_54 : decode cX12_odds 54 = .ok (.istore 10, 2) := by decide +kernel
theorem dX12_odds_56 : decode cX12_odds 56 = .ok (.iload 10, 2) := by decide +kernel
theorem dX12_odds_58 : decode cX12_odds 58 = .ok (.bipush 10, 2) := by decide +kernel
theorem dX12_odds_60 : decode cX12_odds 60 = .ok (.if_icmp .ge 64, 3) := by decide +kernel
theorem dX12_odds_63 : decode cX12_odds 63 = .ok (.aload_n 0, 1) := by decide +kernel
theorem dX12_odds_64 : decode cX12_odds 64 = .ok (.iload_n 1, 1) := by decide +kernel
theorem dX12_odds_65 : decode cX12_odds 65 = .ok (.iload 10, 2) := by decide +kernel
theorem dX12_odds_67 : decode cX12_odds 67 = .ok (.iload 5, 2) := by decide +kernel
theorem dX12_odds_69 : decode cX12_odds 69 = .ok (.invokevirtual 194, 3) := by decide +kernel
theorem dX12_odds_72 : decode cX12_odds 72 = .ok (.ifCond .le 7, 3) := by decide +kernel
theorem dX12_odds_75 : decode cX12_odds 75 = .ok (.iconst 1, 1) := by decide +kernel
theorem dX12_odds_76 : decode cX12_odds 76 = .ok (.goto 4, 3) := by decide +kernel
theorem dX12_odds_79 : decode cX12_odds 79 = .ok (.iconst 0, 1) := by decide +kernel
theorem dX12_odds_80 : decode cX12_odds 80 = .ok (.istore 11, 2) := by decide +kernel
theorem dX12_odds_82 : decode cX12_odds 82 = .ok (.lload 6, 2) := by decide +kernel
theorem dX12_odds_84 : decode cX12_odds 84 = .ok (.iload 11, 2) := by decide +kernel
theorem dX12_odds_86 : decode cX12_odds 86 = .ok (.ifCond .eq 11, 3) := by decide +kernel
theorem dX12_odds_89 : decode cX12_odds 89 = .ok (.bipush 10, 2) := by decide +kernel
theorem dX12_odds_91 : decode cX12_odds 91 = .ok (.iload_n 3, 1) := by decide +kernel
theorem dX12_odds_92 : decode cX12_odds 92 = .ok (.isub, 1) := by decide +kernel
theorem dX12_odds_93 : decode cX12_odds 93 = .ok (.i2l, 1) := by decide +kernel
theorem dX12_odds_94 : decode cX12_odds 94 = .ok (.goto 4, 3) := by decide +kernel
theorem dX12_odds_97 : decode cX12_odds 97 = .ok (.lconst 1, 1) := by decide +kernel
theorem dX12_odds_98 : decode cX12_odds 98 = .ok (.lmul, 1) := by decide +kernel
theorem dX12_odds_99 : decode cX12_odds 99 = .ok (.lstore 6, 2) := by decide +kernel
theorem dX12_odds_101 : decode cX12_odds 101 = .ok (.lload 8, 2) := by decide +kernel
theorem dX12_odds_103 : decode cX12_odds 103 = .ok (.iload 11, 2) := by decide +kernel
theorem dX12_odds_105 : decode cX12_odds 105 = .ok (.ifCond .eq 9, 3) := by decide +kernel
theorem dX12_odds_108 : decode cX12_odds 108 = .ok (.ldc2_w 243, 3) := by decide +kernel
theorem dX12_odds_111 : decode cX12_odds 111 = .ok (.goto 4, 3) := by decide +kernel
theorem dX12_odds_114 : decode cX12_odds 114 = .ok (.lconst 1, 1) := by decide +kernel
theorem dX12_odds_115 : decode cX12_odds 115 = .ok (.lmul, 1) := by decide +kernel
theorem dX12_odds_116 : decode cX12_odds 116 = .ok (.lstore 8, 2) := by decide +kernel
theorem dX12_odds_118 : decode cX12_odds 118 = .ok (.iinc 10 1, 3) := by decide +kernel
theorem dX12_odds_121 : decode cX12_odds 121 = .ok (.goto (-65), 3) := by decide +kernel
theorem dX12_odds_124 : decode cX12_odds 124 = .ok (.lload 6, 2) := by decide +kernel
theorem dX12_odds_126 : decode cX12_odds 126 = .ok (.lload 8, 2) := by decide +kernel
theorem dX12_odds_128 : decode cX12_odds 128 = .ok (.iload 4, 2) := by decide +kernel
theorem dX12_odds_130 : decode cX12_odds 130 = .ok (.invokestatic 245, 3) := by decide +kernel
theorem dX12_odds_133 : decode cX12_odds 133 = .ok (.lreturn, 1) := by decide +kernel
set_option maxRecDepth 20000 in
theorem ggX12_book_X12_in : GoodIn wsX12_book wsX12_in := goodIn_r _ [5] (by decide +kernel) (by decide +kernel)
set_option maxRecDepth 20000 in
theorem gX12_book_X12_in : GoodIn wsX12_book (va_wsS RX12 53 yX12_in wsX12_in) := goodIn_app (goodIn_of _ (by decide +kernel)) ggX12_book_X12_in
theorem dX12_book_0 : decode cX12_book 0 = .ok (.iload_n 1, 1) := by decide +kernel
theorem dX12_book_1 : decode cX12_book 1 = .ok (.iconst (-1), 1) := by decide +kernel
theorem dX12_book_2 : decode cX12_book 2 = .ok (.if_icmp .ne 13, 3) := by decide +kernel
theorem dX12_book_5 : decode cX12_book 5 = .ok (.aload_n 0, 1) := by decide +kernel
theorem dX12_book_6 : decode cX12_book 6 = .ok (.getfield 9, 3) := by decide +kernel
theorem dX12_book_9 : decode cX12_book 9 = .ok (.bipush 40, 2) := by decide +kernel
theorem dX12_book_11 : decode cX12_book 11 = .ok (.iconst 0, 1) := by decide +kernel
theorem dX12_book_12 : decode cX12_book 12 = .ok (.iastore, 1) := by decide +kernel
theorem dX12_book_13 : decode cX12_book 13 = .ok (.iconst 0, 1) := by decide +kernel
theorem dX12_book_14 : decode cX12_book 14 = .ok (.ireturn, 1) := by decide +kernel
theorem dX12_book_15 : decode cX12_book 15 = .ok (.iload_n 1, 1) := by decide +kernel
theorem dX12_book_16 : decode cX12_book 16 = .ok (.iconst 0, 1) := by decide +kernel
theorem dX12_book_17 : decode cX12_book 17 = .ok (.sipush 9999, 3) := by decide +kernel
theorem dX12_book_20 : decode cX12_book 20 = .ok (.invokestatic 53, 3) := by decide +kernel
theorem dX12_book_23 : decode cX12_book 23 = .ok (.ifCond .ne 6, 3) := by decide +kernel
theorem dX12_book_26 : decode cX12_book 26 = .ok (.bipush (-2), 2) := by decide +kernel
theorem dX12_book_28 : decode cX12_book 28 = .ok (.ireturn, 1) := by decide +kernel
theorem dX12_book_29 : decode cX12_book 29 = .ok (.aload_n 0, 1) := by decide +kernel
theorem dX12_book_30 : decode cX12_book 30 = .ok (.getfield 9, 3) := by decide +kernel
theorem dX12_book_33 : decode cX12_book 33 = .ok (.bipush 40, 2) := by decide +kernel
theorem dX12_book_35 : decode cX12_book 35 = .ok (.iaload, 1) := by decide +kernel
theorem dX12_book_36 : decode cX12_book 36 = .ok (.bipush 12, 2) := by decide +kernel
theorem dX12_book_38 : decode cX12_book 38 = .ok (.if_icmp .ne 6, 3) := by decide +kernel
theorem dX12_book_41 : decode cX12_book 41 = .ok (.bipush (-4), 2) := by decide +kernel
theorem dX12_book_43 : decode cX12_book 43 = .ok (.ireturn, 1) := by decide +kernel
theorem dX12_book_44 : decode cX12_book 44 = .ok (.aload_n 0, 1) := by decide +kernel
theorem dX12_book_45 : decode cX12_book 45 = .ok (.getfield 9, 3) := by decide +kernel
theorem dX12_book_48 : decode cX12_book 48 = .ok (.bipush 56, 2) := by decide +kernel
theorem dX12_book_50 : decode cX12_book 50 = .ok (.aload_n 0, 1) := by decide +kernel
theorem dX12_book_51 : decode cX12_book 51 = .ok (.getfield 9, 3) := by decide +kernel
theorem dX12_book_54 : decode cX12_book 54 = .ok (.bipush 40, 2) := by decide +kernel
theorem dX12_book_56 : decode cX12_book 56 = .ok (.iaload, 1) := by decide +kernel
theorem dX12_book_57 : decode cX12_book 57 = .ok (.iadd, 1) := by decide +kernel
theorem dX12_book_58 : decode cX12_book 58 = .ok (.iload_n 1, 1) := by decide +kernel
theorem dX12_book_59 : decode cX12_book 59 = .ok (.iastore, 1) := by decide +kernel
theorem dX12_book_60 : decode cX12_book 60 = .ok (.aload_n 0, 1) := by decide +kernel
theorem dX12_book_61 : decode cX12_book 61 = .ok (.getfield 9, 3) := by decide +kernel
theorem dX12_book_64 : decode cX12_book 64 = .ok (.bipush 40, 2) := by decide +kernel
theorem dX12_book_66 : decode cX12_book 66 = .ok (.dup2, 1) := by decide +kernel
theorem dX12_book_67 : decode cX12_book 67 = .ok (.iaload, 1) := by decide +kernel
theorem dX12_book_68 : decode cX12_book 68 = .ok (.iconst 1, 1) := by decide +kernel
theorem dX12_book_69 : decode cX12_book 69 = .ok (.iadd, 1) := by decide +kernel
theorem dX12_book_70 : decode cX12_book 70 = .ok (.iastore, 1) := by decide +kernel
theorem dX12_book_71 : decode cX12_book 71 = .ok (.aload_n 0, 1) := by decide +kernel
theorem dX12_book_72 : decode cX12_book 72 = .ok (.getfield 9, 3) := by decide +kernel
theorem dX12_book_75 : decode cX12_book 75 = .ok (.bipush 40, 2) := by decide +kernel
theorem dX12_book_77 : decode cX12_book 77 = .ok (.iaload, 1) := by decide +kernel
theorem dX12_book_78 : decode cX12_book 78 = .ok (.ireturn, 1) := by decide +kernel
set_option maxRecDepth 20000 in
theorem ggX12_looked_X12_isMan : GoodIn wsX12_looked wsX12_isMan := goodIn_r _ [7, 1, 8, 9, 6, 10, 83, 84, 85, 86, 87, 88, 89, 90, 91, 92, 93, 94, 95, 96, 97, 98, 99, 100, 101, 102, 103, 104, 105, 106, 107, 108, 109, 110, 111, 112] (by decide +kernel) (by decide +kernel)
set_option maxRecDepth 20000 in
theorem gX12_looked_X12_isMan : GoodIn wsX12_looked (wsV RX12 148 RX12 yX12_isMan wsX12_isMan) := goodIn_app (goodIn_of _ (by decide +kernel)) ggX12_looked_X12_isMan
set_option maxRecDepth 20000 in
theorem ggX12_looked_X12_isLoad : GoodIn wsX12_looked wsX12_isLoad := goodIn_r _ [13, 8, 9, 6, 10] (by decide +kernel) (by decide +kernel)
set_option maxRecDepth 20000 in
theorem gX12_looked_X12_isLoad : GoodIn wsX12_looked (va_wsS RX12 206 yX12_isLoad wsX12_isLoad) := goodIn_app (goodIn_of _ (by decide +kernel)) ggX12_looked_X12_isLoad
set_option maxRecDepth 20000 in
theorem ggX12_looked_X12_keeps : GoodIn wsX12_looked wsX12_keeps := goodIn_r _ [17, 18, 1, 83, 84, 85, 86, 87, 88, 89, 90, 91, 92, 93, 94, 95, 96, 97, 98, 99, 100, 101, 102, 103, 104, 105, 106, 107, 108, 109, 110, 111, 112] (by decide +kernel) (by decide +kernel)
set_option maxRecDepth 20000 in
theorem gX12_looked_X12_keeps : GoodIn wsX12_looked (wsV RX12 213 RX12 yX12_keeps wsX12_keeps) := goodIn_app (goodIn_of _ (by decide +kernel)) ggX12_looked_X12_keeps
set_option maxRecDepth 20000 in
theorem ggX12_looked_X12_goes : GoodIn wsX12_looked wsX12_goes := goodIn_r _ [22, 23, 1, 24, 2, 25, 26, 27, 28, 6, 29, 30, 31, 32, 33, 34, 35, 36, 37, 38, 39, 40, 41, 8, 9, 10, 42, 43, 44, 45, 46, 47, 48, 49, 50, 51, 52, 53, 54, 55, 56, 57, 58, 59, 60, 61, 62, 63, 64, 65, 66, 67, 68, 69, 70, 71, 72, 73, 74, 75, 76, 77, 78, 83, 84, 85, 86, 87, 88, 89, 90, 91, 92, 93, 94, 95, 96, 97, 98, 99, 100, 101, 102, 103, 104, 105, 106, 107, 108, 109, 110, 111, 112] (by decide +kernel) (by decide +kernel)
set_option maxRecDepth 20000 in
theorem gX12_looked_X12_goes : GoodIn wsX12_looked (wsV RX12 209 RX12 yX12_goes wsX12_goes) := goodIn_app (goodIn_of _ (by decide +kernel)) ggX12_looked_X12_goes
set_option maxRecDepth 20000 in
theorem ggX12_looked_X12_goesBackTo : GoodIn wsX12_looked wsX12_goesBackTo := goodIn_r _ [82, 51, 1, 18, 83, 84, 85, 86, 87, 88, 89, 90, 91, 92, 93, 94, 95, 96, 97, 98, 99, 100, 101, 102, 103, 104, 105, 106, 107, 108, 109, 110, 111, 112] (by decide +kernel) (by decide +kernel)
set_option maxRecDepth 20000 in
theorem gX12_looked_X12_goesBackTo : GoodIn wsX12_looked (wsV RX12 216 RX12 yX12_goesBackTo wsX12_goesBackTo) := goodIn_app (goodIn_of _ (by decide +kernel)) ggX12_looked_X12_goesBackTo
theorem dX12_looked_0 : decode cX12_looked 0 = .ok (.aload_n 0, 1) := by decide +kernel
theorem dX12_looked_1 : decode cX12_looked 1 = .ok (.iload_n 1, 1) := by decide +kernel
theorem dX12_looked_2 : decode cX12_looked 2 = .ok (.invokevirtual 148, 3) := by decide +kernel
theorem dX12_looked_5 : decode cX12_looked 5 = .ok (.ifCond .ne 5, 3) := by decide +kernel
theorem dX12_looked_8 : decode cX12_looked 8 = .ok (.iconst (-1), 1) := by decide +kernel
theorem dX12_looked_9 : decode cX12_looked 9 = .ok (.ireturn, 1) := by decide +kernel
theorem dX12_looked_10 : decode cX12_looked 10 = .ok (.iload_n 2, 1) := by decide +kernel
theorem dX12_looked_11 : decode cX12_looked 11 = .ok (.invokestatic 206, 3) := by decide +kernel
theorem dX12_looked_14 : decode cX12_looked 14 = .ok (.ifCond .ne 6, 3) := by decide +kernel
theorem dX12_looked_17 : decode cX12_looked 17 = .ok (.bipush (-2), 2) := by decide +kernel
theorem dX12_looked_19 : decode cX12_looked 19 = .ok (.ireturn, 1) := by decide +kernel
theorem dX12_looked_20 : decode cX12_looked 20 = .ok (.aload_n 0, 1) := by decide +kernel
theorem dX12_looked_21 : decode cX12_looked 21 = .ok (.iconst 0, 1) := by decide +kernel
theorem dX12_looked_22 : decode cX12_looked 22 = .ok (.invokevirtual 213, 3) := by decide +kernel
theorem dX12_looked_25 : decode cX12_looked 25 = .ok (.bipush (-5), 2) := by decide +kernel
theorem dX12_looked_27 : decode cX12_looked 27 = .ok (.istore_n 3, 1) := by decide +kernel
theorem dX12_looked_28 : decode cX12_looked 28 = .ok (.iconst 0, 1) := by decide +kernel
theorem dX12_looked_29 : decode cX12_looked 29 = .ok (.istore 4, 2) := by decide +kernel
theorem dX12_looked_31 : decode cX12_looked 31 = .ok (.iload 4, 2) := by decide +kernel
theorem dX12_looked_33 : decode cX12_looked 33 = .ok (.aload_n 0, 1) := by decide +kernel
theorem dX12_looked_34 : decode cX12_looked 34 = .ok (.getfield 9, 3) := by decide +kernel
theorem dX12_looked_37 : decode cX12_looked 37 = .ok (.bipush 40, 2) := by decide +kernel
theorem dX12_looked_39 : decode cX12_looked 39 = .ok (.iaload, 1) := by decide +kernel
theorem dX12_looked_40 : decode cX12_looked 40 = .ok (.if_icmp .ge 45, 3) := by decide +kernel
theorem dX12_looked_43 : decode cX12_looked 43 = .ok (.iload_n 3, 1) := by decide +kernel
theorem dX12_looked_44 : decode cX12_looked 44 = .ok (.bipush (-5), 2) := by decide +kernel
theorem dX12_looked_46 : decode cX12_looked 46 = .ok (.if_icmp .ne 39, 3) := by decide +kernel
theorem dX12_looked_49 : decode cX12_looked 49 = .ok (.aload_n 0, 1) := by decide +kernel
theorem dX12_looked_50 : decode cX12_looked 50 = .ok (.iload_n 1, 1) := by decide +kernel
theorem dX12_looked_51 : decode cX12_looked 51 = .ok (.iload_n 2, 1) := by decide +kernel
theorem dX12_looked_52 : decode cX12_looked 52 = .ok (.invokevirtual 209, 3) := by decide +kernel
theorem dX12_looked_55 : decode cX12_looked 55 = .ok (.aload_n 0, 1) := by decide +kernel
theorem dX12_looked_56 : decode cX12_looked 56 = .ok (.getfield 187, 3) := by decide +kernel
theorem dX12_looked_59 : decode cX12_looked 59 = .ok (.aload_n 0, 1) := by decide +kernel
theorem dX12_looked_60 : decode cX12_looked 60 = .ok (.getfield 9, 3) := by decide +kernel
theorem dX12_looked_63 : decode cX12_looked 63 = .ok (.bipush 56, 2) := by decide +kernel
theorem dX12_looked_65 : decode cX12_looked 65 = .ok (.iload 4, 2) := by decide +kernel
theorem dX12_looked_67 : decode cX12_looked 67 = .ok (.iadd, 1) := by decide +kernel
theorem dX12_looked_68 : decode cX12_looked 68 = .ok (.iaload, 1) := by decide +kernel
theorem dX12_looked_69 : decode cX12_looked 69 = .ok (.if_icmp .eq 8, 3) := by decide +kernel
theorem dX12_looked_72 : decode cX12_looked 72 = .ok (.iload 4, 2) := by decide +kernel
theorem dX12_looked_74 : decode cX12_looked 74 = .ok (.goto 4, 3) := by decide +kernel
theorem dX12_looked_77 : decode cX12_looked 77 = .ok (.iload_n 3, 1) := by decide +kernel
theorem dX12_looked_78 : decode cX12_looked 78 = .ok (.istore_n 3, 1) := by decide +kernel
theorem dX12_looked_79 : decode cX12_looked 79 = .ok (.iinc 4 1, 3) := by decide +kernel
theorem dX12_looked_82 : decode cX12_looked 82 = .ok (.goto (-51), 3) := by decide +kernel
theorem dX12_looked_85 : decode cX12_looked 85 = .ok (.aload_n 0, 1) := by decide +kernel
theorem dX12_looked_86 : decode cX12_looked 86 = .ok (.iconst 0, 1) := by decide +kernel
theorem dX12_looked_87 : decode cX12_looked 87 = .ok (.invokevirtual 216, 3) := by decide +kernel
theorem dX12_looked_90 : decode cX12_looked 90 = .ok (.iload_n 3, 1) := by decide +kernel
theorem dX12_looked_91 : decode cX12_looked 91 = .ok (.ireturn, 1) := by decide +kernel
theorem dX12_ranBody_0 : decode cX12_ranBody 0 = .ok (.aload_n 0, 1) := by decide +kernel
theorem dX12_ranBody_1 : decode cX12_ranBody 1 = .ok (.getfield 249, 3) := by decide +kernel
theorem dX12_ranBody_4 : decode cX12_ranBody 4 = .ok (.bipush 20, 2) := by decide +kernel
theorem dX12_ranBody_6 : decode cX12_ranBody 6 = .ok (.if_icmp .ge 13, 3) := by decide +kernel
theorem dX12_ranBody_9 : decode cX12_ranBody 9 = .ok (.aload_n 0, 1) := by decide +kernel
theorem dX12_ranBody_10 : decode cX12_ranBody 10 = .ok (.getfield 47, 3) := by decide +kernel
theorem dX12_ranBody_13 : decode cX12_ranBody 13 = .ok (.aload_n 0, 1) := by decide +kernel
theorem dX12_ranBody_14 : decode cX12_ranBody 14 = .ok (.getfield 249, 3) := by decide +kernel
theorem dX12_ranBody_17 : decode cX12_ranBody 17 = .ok (.iload_n 1, 1) := by decide +kernel
theorem dX12_ranBody_18 : decode cX12_ranBody 18 = .ok (.iastore, 1) := by decide +kernel
theorem dX12_ranBody_19 : decode cX12_ranBody 19 = .ok (.aload_n 0, 1) := by decide +kernel
theorem dX12_ranBody_20 : decode cX12_ranBody 20 = .ok (.dup, 1) := by decide +kernel
theorem dX12_ranBody_21 : decode cX12_ranBody 21 = .ok (.getfield 249, 3) := by decide +kernel
theorem dX12_ranBody_24 : decode cX12_ranBody 24 = .ok (.iconst 1, 1) := by decide +kernel
theorem dX12_ranBody_25 : decode cX12_ranBody 25 = .ok (.iadd, 1) := by decide +kernel
theorem dX12_ranBody_26 : decode cX12_ranBody 26 = .ok (.putfield 249, 3) := by decide +kernel
theorem dX12_ranBody_29 : decode cX12_ranBody 29 = .ok (.return_, 1) := by decide +kernel
theorem dX12_isUnder_0 : decode cX12_isUnder 0 = .ok (.iload_n 1, 1) := by decide +kernel
theorem dX12_isUnder_1 : decode cX12_isUnder 1 = .ok (.ifCond .eq 24, 3) := by decide +kernel
theorem dX12_isUnder_4 : decode cX12_isUnder 4 = .ok (.iload_n 1, 1) := by decide +kernel
theorem dX12_isUnder_5 : decode cX12_isUnder 5 = .ok (.iload_n 0, 1) := by decide +kernel
theorem dX12_isUnder_6 : decode cX12_isUnder 6 = .ok (.if_icmp .eq 19, 3) := by decide +kernel
theorem dX12_isUnder_9 : decode cX12_isUnder 9 = .ok (.iload_n 1, 1) := by decide +kernel
theorem dX12_isUnder_10 : decode cX12_isUnder 10 = .ok (.ifCond .le 19, 3) := by decide +kernel
theorem dX12_isUnder_13 : decode cX12_isUnder 13 = .ok (.iload_n 1, 1) := by decide +kernel
theorem dX12_isUnder_14 : decode cX12_isUnder 14 = .ok (.iconst 4, 1) := by decide +kernel
theorem dX12_isUnder_15 : decode cX12_isUnder 15 = .ok (.if_icmp .ge 14, 3) := by decide +kernel
theorem dX12_isUnder_18 : decode cX12_isUnder 18 = .ok (.iload_n 0, 1) := by decide +kernel
theorem dX12_isUnder_19 : decode cX12_isUnder 19 = .ok (.iload_n 1, 1) := by decide +kernel
theorem dX12_isUnder_20 : decode cX12_isUnder 20 = .ok (.iconst 3, 1) := by decide +kernel
theorem dX12_isUnder_21 : decode cX12_isUnder 21 = .ok (.iadd, 1) := by decide +kernel
theorem dX12_isUnder_22 : decode cX12_isUnder 22 = .ok (.if_icmp .ne 7, 3) := by decide +kernel
theorem dX12_isUnder_25 : decode cX12_isUnder 25 = .ok (.iconst 1, 1) := by decide +kernel
theorem dX12_isUnder_26 : decode cX12_isUnder 26 = .ok (.goto 4, 3) := by decide +kernel
theorem dX12_isUnder_29 : decode cX12_isUnder 29 = .ok (.iconst 0, 1) := by decide +kernel
theorem dX12_isUnder_30 : decode cX12_isUnder 30 = .ok (.ireturn, 1) := by decide +kernel
set_option maxRecDepth 20000 in
theorem ggX12_plainLifts_X12_ranBody : GoodIn wsX12_plainLifts wsX12_ranBody := goodIn_r _ [6, 7, 8, 9, 10, 11, 12, 13, 14, 15, 16, 17, 18, 19, 20, 21, 22, 23, 24, 25, 26, 27, 28, 29, 30, 31, 32, 33, 34, 35, 36, 37, 38] (by decide +kernel) (by decide +kernel)
set_option maxRecDepth 20000 in
theorem gX12_plainLifts_X12_ranBody : GoodIn wsX12_plainLifts (wsV RX12 252 RX12 yX12_ranBody wsX12_ranBody) := goodIn_app (goodIn_of _ (by decide +kernel)) ggX12_plainLifts_X12_ranBody
theorem dX12_plainLifts_0 : decode cX12_plainLifts 0 = .ok (.aload_n 0, 1) := by decide +kernel
theorem dX12_plainLifts_1 : decode cX12_plainLifts 1 = .ok (.iconst 1, 1) := by decide +kernel
theorem dX12_plainLifts_2 : decode cX12_plainLifts 2 = .ok (.invokevirtual 252, 3) := by decide +kernel
theorem dX12_plainLifts_5 : decode cX12_plainLifts 5 = .ok (.iload_n 1, 1) := by decide +kernel
