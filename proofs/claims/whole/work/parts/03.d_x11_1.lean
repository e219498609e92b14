theorem dX11_turns_25 : decode cX11_turns 25 = .ok (.aload 6, 2) := by decide +kernel
theorem dX11_turns_27 : decode cX11_turns 27 = .ok (.ifnonnull 5, 3) := by decide +kernel
theorem dX11_turns_30 : decode cX11_turns 30 = .ok (.iconst (-1), 1) := by decide +kernel
theorem dX11_turns_31 : decode cX11_turns 31 = .ok (.ireturn, 1) := by decide +kernel
theorem dX11_turns_32 : decode cX11_turns 32 = .ok (.iload_n 1, 1) := by decide +kernel
theorem dX11_turns_33 : decode cX11_turns 33 = .ok (.iload_n 2, 1) := by decide +kernel
theorem dX11_turns_34 : decode cX11_turns 34 = .ok (.if_icmp .eq 22, 3) := by decide +kernel
theorem dX11_turns_37 : decode cX11_turns 37 = .ok (.iload_n 3, 1) := by decide +kernel
theorem dX11_turns_38 : decode cX11_turns 38 = .ok (.invokestatic 135, 3) := by decide +kernel
theorem dX11_turns_41 : decode cX11_turns 41 = .ok (.ifCond .ne 15, 3) := by decide +kernel
theorem dX11_turns_44 : decode cX11_turns 44 = .ok (.iload 4, 2) := by decide +kernel
theorem dX11_turns_46 : decode cX11_turns 46 = .ok (.iconst 0, 1) := by decide +kernel
theorem dX11_turns_47 : decode cX11_turns 47 = .ok (.sipush 999, 3) := by decide +kernel
theorem dX11_turns_50 : decode cX11_turns 50 = .ok (.invokestatic 47, 3) := by decide +kernel
theorem dX11_turns_53 : decode cX11_turns 53 = .ok (.ifCond .eq 6, 3) := by decide +kernel
theorem dX11_turns_56 : decode cX11_turns 56 = .ok (.bipush (-2), 2) := by decide +kernel
theorem dX11_turns_58 : decode cX11_turns 58 = .ok (.ireturn, 1) := by decide +kernel
theorem dX11_turns_59 : decode cX11_turns 59 = .ok (.aload_n 0, 1) := by decide +kernel
theorem dX11_turns_60 : decode cX11_turns 60 = .ok (.getfield 26, 3) := by decide +kernel
theorem dX11_turns_63 : decode cX11_turns 63 = .ok (.aload_n 0, 1) := by decide +kernel
theorem dX11_turns_64 : decode cX11_turns 64 = .ok (.getfield 17, 3) := by decide +kernel
theorem dX11_turns_67 : decode cX11_turns 67 = .ok (.invokevirtual 155, 3) := by decide +kernel
theorem dX11_turns_70 : decode cX11_turns 70 = .ok (.iconst 0, 1) := by decide +kernel
theorem dX11_turns_71 : decode cX11_turns 71 = .ok (.istore 7, 2) := by decide +kernel
theorem dX11_turns_73 : decode cX11_turns 73 = .ok (.iconst 0, 1) := by decide +kernel
theorem dX11_turns_74 : decode cX11_turns 74 = .ok (.istore 8, 2) := by decide +kernel
theorem dX11_turns_76 : decode cX11_turns 76 = .ok (.iconst 0, 1) := by decide +kernel
theorem dX11_turns_77 : decode cX11_turns 77 = .ok (.istore 9, 2) := by decide +kernel
theorem dX11_turns_79 : decode cX11_turns 79 = .ok (.aload 5, 2) := by decide +kernel
theorem dX11_turns_81 : decode cX11_turns 81 = .ok (.astore 10, 2) := by decide +kernel
theorem dX11_turns_83 : decode cX11_turns 83 = .ok (.iconst 0, 1) := by decide +kernel
theorem dX11_turns_84 : decode cX11_turns 84 = .ok (.istore 11, 2) := by decide +kernel
theorem dX11_turns_86 : decode cX11_turns 86 = .ok (.iload 11, 2) := by decide +kernel
theorem dX11_turns_88 : decode cX11_turns 88 = .ok (.sipush 1000, 3) := by decide +kernel
theorem dX11_turns_91 : decode cX11_turns 91 = .ok (.if_icmp .ge 95, 3) := by decide +kernel
theorem dX11_turns_94 : decode cX11_turns 94 = .ok (.aload_n 0, 1) := by decide +kernel
theorem dX11_turns_95 : decode cX11_turns 95 = .ok (.getfield 26, 3) := by decide +kernel
theorem dX11_turns_98 : decode cX11_turns 98 = .ok (.aload 10, 2) := by decide +kernel
theorem dX11_turns_100 : decode cX11_turns 100 = .ok (.iload_n 3, 1) := by decide +kernel
theorem dX11_turns_101 : decode cX11_turns 101 = .ok (.invokevirtual 139, 3) := by decide +kernel
theorem dX11_turns_104 : decode cX11_turns 104 = .ok (.astore 12, 2) := by decide +kernel
theorem dX11_turns_106 : decode cX11_turns 106 = .ok (.iload 8, 2) := by decide +kernel
theorem dX11_turns_108 : decode cX11_turns 108 = .ok (.iload 7, 2) := by decide +kernel
theorem dX11_turns_110 : decode cX11_turns 110 = .ok (.invokestatic 176, 3) := by decide +kernel
theorem dX11_turns_113 : decode cX11_turns 113 = .ok (.istore 13, 2) := by decide +kernel
theorem dX11_turns_115 : decode cX11_turns 115 = .ok (.iload 13, 2) := by decide +kernel
theorem dX11_turns_117 : decode cX11_turns 117 = .ok (.aload 12, 2) := by decide +kernel
theorem dX11_turns_119 : decode cX11_turns 119 = .ok (.getfield 147, 3) := by decide +kernel
theorem dX11_turns_122 : decode cX11_turns 122 = .ok (.iadd, 1) := by decide +kernel
theorem dX11_turns_123 : decode cX11_turns 123 = .ok (.istore 14, 2) := by decide +kernel
theorem dX11_turns_125 : decode cX11_turns 125 = .ok (.iload 14, 2) := by decide +kernel
theorem dX11_turns_127 : decode cX11_turns 127 = .ok (.iload 4, 2) := by decide +kernel
theorem dX11_turns_129 : decode cX11_turns 129 = .ok (.if_icmp .le 6, 3) := by decide +kernel
theorem dX11_turns_132 : decode cX11_turns 132 = .ok (.goto 54, 3) := by decide +kernel
theorem dX11_turns_135 : decode cX11_turns 135 = .ok (.iload 13, 2) := by decide +kernel
theorem dX11_turns_137 : decode cX11_turns 137 = .ok (.aload 12, 2) := by decide +kernel
theorem dX11_turns_139 : decode cX11_turns 139 = .ok (.getfield 182, 3) := by decide +kernel
theorem dX11_turns_142 : decode cX11_turns 142 = .ok (.iadd, 1) := by decide +kernel
theorem dX11_turns_143 : decode cX11_turns 143 = .ok (.istore 7, 2) := by decide +kernel
theorem dX11_turns_145 : decode cX11_turns 145 = .ok (.aload_n 0, 1) := by decide +kernel
theorem dX11_turns_146 : decode cX11_turns 146 = .ok (.getfield 26, 3) := by decide +kernel
theorem dX11_turns_149 : decode cX11_turns 149 = .ok (.aload 10, 2) := by decide +kernel
theorem dX11_turns_151 : decode cX11_turns 151 = .ok (.aload 12, 2) := by decide +kernel
theorem dX11_turns_153 : decode cX11_turns 153 = .ok (.invokevirtual 143, 3) := by decide +kernel
theorem dX11_turns_156 : decode cX11_turns 156 = .ok (.iload 9, 2) := by decide +kernel
theorem dX11_turns_158 : decode cX11_turns 158 = .ok (.istore 8, 2) := by decide +kernel
theorem dX11_turns_160 : decode cX11_turns 160 = .ok (.iload 14, 2) := by decide +kernel
theorem dX11_turns_162 : decode cX11_turns 162 = .ok (.istore 9, 2) := by decide +kernel
theorem dX11_turns_164 : decode cX11_turns 164 = .ok (.aload 10, 2) := by decide +kernel
theorem dX11_turns_166 : decode cX11_turns 166 = .ok (.aload 5, 2) := by decide +kernel
theorem dX11_turns_168 : decode cX11_turns 168 = .ok (.if_acmp .ne 8, 3) := by decide +kernel
theorem dX11_turns_171 : decode cX11_turns 171 = .ok (.aload 6, 2) := by decide +kernel
theorem dX11_turns_173 : decode cX11_turns 173 = .ok (.goto 5, 3) := by decide +kernel
theorem dX11_turns_176 : decode cX11_turns 176 = .ok (.aload 5, 2) := by decide +kernel
theorem dX11_turns_178 : decode cX11_turns 178 = .ok (.astore 10, 2) := by decide +kernel
theorem dX11_turns_180 : decode cX11_turns 180 = .ok (.iinc 11 1, 3) := by decide +kernel
theorem dX11_turns_183 : decode cX11_turns 183 = .ok (.goto (-97), 3) := by decide +kernel
theorem dX11_turns_186 : decode cX11_turns 186 = .ok (.aload_n 0, 1) := by decide +kernel
theorem dX11_turns_187 : decode cX11_turns 187 = .ok (.getfield 26, 3) := by decide +kernel
theorem dX11_turns_190 : decode cX11_turns 190 = .ok (.getfield 83, 3) := by decide +kernel
theorem dX11_turns_193 : decode cX11_turns 193 = .ok (.aload_n 0, 1) := by decide +kernel
theorem dX11_turns_194 : decode cX11_turns 194 = .ok (.getfield 17, 3) := by decide +kernel
theorem dX11_turns_197 : decode cX11_turns 197 = .ok (.getfield 83, 3) := by decide +kernel
theorem dX11_turns_200 : decode cX11_turns 200 = .ok (.isub, 1) := by decide +kernel
theorem dX11_turns_201 : decode cX11_turns 201 = .ok (.ireturn, 1) := by decide +kernel
set_option maxRecDepth 20000 in
theorem ggX11_worth_X10_find : GoodIn wsX11_worth wsX10_find := goodIn_r _ [6, 7, 8, 235, 236, 237, 238, 239, 240, 241, 242, 243, 244, 245, 246, 247, 248, 249, 250] (by decide +kernel) (by decide +kernel)
set_option maxRecDepth 20000 in
theorem gX11_worth_X10_find : GoodIn wsX11_worth (wsV RX11 115 RX10 yX10_find wsX10_find) := goodIn_app (goodIn_of _ (by decide +kernel)) ggX11_worth_X10_find
set_option maxRecDepth 20000 in
theorem ggX11_worth_X11_outside : GoodIn wsX11_worth wsX11_outside := goodIn_r _ [12] (by decide +kernel) (by decide +kernel)
set_option maxRecDepth 20000 in
theorem gX11_worth_X11_outside : GoodIn wsX11_worth (va_wsS RX11 47 yX11_outside wsX11_outside) := goodIn_app (goodIn_of _ (by decide +kernel)) ggX11_worth_X11_outside
set_option maxRecDepth 20000 in
theorem ggX11_worth_X11_overOfAllBut : GoodIn wsX11_worth wsX11_overOfAllBut := goodIn_r _ [16, 17, 1, 18, 19, 20, 21, 22, 5, 23, 24, 25, 26, 27, 28, 8, 29, 7, 30, 31, 32, 33, 34, 35, 36, 37, 38, 39, 40, 41, 2, 3, 4, 6, 42, 43, 44, 45, 46, 47, 48, 49, 50, 51, 52, 53, 54, 55, 56, 57, 58, 59, 60, 61, 62, 63, 64, 65, 66, 67, 68, 69, 70, 71, 72, 73, 74, 75, 76, 77, 78, 79, 80, 81, 82, 83, 84, 85, 86, 87, 88, 89, 90, 91, 92, 93, 94, 95, 96, 97, 98, 99, 100, 101, 102, 103, 104, 105, 106, 107, 108, 109, 110, 111, 112, 113, 114, 115, 116, 117, 118, 119, 120, 121, 122, 123, 124, 125, 126, 127, 128, 129, 130, 131, 132, 133, 134, 135, 136, 137, 138, 139, 140, 141, 142, 143, 144, 145, 146, 147, 148, 149, 150, 151, 152, 153, 154, 155, 156, 157, 158, 159, 160, 161, 162, 163, 164, 165, 166, 167, 168, 169, 170, 171, 172, 173, 174, 175, 176, 177, 178, 179, 180, 181, 182, 183, 184, 185, 186, 187, 188, 189, 190, 191, 192, 193, 194, 195, 196, 197, 198, 199, 200, 201, 202, 203, 204, 205, 206, 207, 208, 209, 210, 211, 212, 213, 214, 215, 216, 217, 218, 219, 220, 221, 222, 223, 224, 225, 226, 227, 228, 229, 230, 231, 232, 233, 234, 235, 236, 237, 238, 239, 240, 241, 242, 243, 244, 245, 246, 247, 248, 249, 250, 251, 252, 253, 254, 255, 256, 257, 258, 259, 260, 261, 262, 263, 264, 265, 266, 267, 268, 269, 270, 271, 272, 273, 274, 275, 276, 277, 278, 279, 280, 281, 282, 283, 284, 285, 286, 287, 288, 289, 290, 291, 292] (by decide +kernel) (by decide +kernel)
set_option maxRecDepth 20000 in
theorem gX11_worth_X11_overOfAllBut : GoodIn wsX11_worth (wsV RX11 185 RX11 yX11_overOfAllBut wsX11_overOfAllBut) := goodIn_app (goodIn_of _ (by decide +kernel)) ggX11_worth_X11_overOfAllBut
theorem dX11_worth_0 : decode cX11_worth 0 = .ok (.aload_n 0, 1) := by decide +kernel
theorem dX11_worth_1 : decode cX11_worth 1 = .ok (.getfield 17, 3) := by decide +kernel
theorem dX11_worth_4 : decode cX11_worth 4 = .ok (.iload_n 1, 1) := by decide +kernel
theorem dX11_worth_5 : decode cX11_worth 5 = .ok (.invokevirtual 115, 3) := by decide +kernel
theorem dX11_worth_8 : decode cX11_worth 8 = .ok (.ifnonnull 7, 3) := by decide +kernel
theorem dX11_worth_11 : decode cX11_worth 11 = .ok (.sipush (-1001), 3) := by decide +kernel
theorem dX11_worth_14 : decode cX11_worth 14 = .ok (.ireturn, 1) := by decide +kernel
theorem dX11_worth_15 : decode cX11_worth 15 = .ok (.iload_n 2, 1) := by decide +kernel
theorem dX11_worth_16 : decode cX11_worth 16 = .ok (.iconst 0, 1) := by decide +kernel
theorem dX11_worth_17 : decode cX11_worth 17 = .ok (.sipush 999, 3) := by decide +kernel
theorem dX11_worth_20 : decode cX11_worth 20 = .ok (.invokestatic 47, 3) := by decide +kernel
theorem dX11_worth_23 : decode cX11_worth 23 = .ok (.ifCond .eq 7, 3) := by decide +kernel
theorem dX11_worth_26 : decode cX11_worth 26 = .ok (.sipush (-1002), 3) := by decide +kernel
theorem dX11_worth_29 : decode cX11_worth 29 = .ok (.ireturn, 1) := by decide +kernel
theorem dX11_worth_30 : decode cX11_worth 30 = .ok (.aload_n 0, 1) := by decide +kernel
theorem dX11_worth_31 : decode cX11_worth 31 = .ok (.iconst (-1), 1) := by decide +kernel
theorem dX11_worth_32 : decode cX11_worth 32 = .ok (.iload_n 2, 1) := by decide +kernel
theorem dX11_worth_33 : decode cX11_worth 33 = .ok (.invokevirtual 185, 3) := by decide +kernel
theorem dX11_worth_36 : decode cX11_worth 36 = .ok (.aload_n 0, 1) := by decide +kernel
theorem dX11_worth_37 : decode cX11_worth 37 = .ok (.iload_n 1, 1) := by decide +kernel
theorem dX11_worth_38 : decode cX11_worth 38 = .ok (.iload_n 2, 1) := by decide +kernel
theorem dX11_worth_39 : decode cX11_worth 39 = .ok (.invokevirtual 185, 3) := by decide +kernel
theorem dX11_worth_42 : decode cX11_worth 42 = .ok (.isub, 1) := by decide +kernel
theorem dX11_worth_43 : decode cX11_worth 43 = .ok (.ireturn, 1) := by decide +kernel
set_option maxRecDepth 20000 in
theorem ggX11_pave_X10_find : GoodIn wsX11_pave wsX10_find := goodIn_r _ [8, 9, 10, 225, 226, 227, 228, 229, 230, 231, 232, 233, 234, 235, 236, 237, 238, 239, 240] (by decide +kernel) (by decide +kernel)
set_option maxRecDepth 20000 in
theorem gX11_pave_X10_find : GoodIn wsX11_pave (wsV RX11 115 RX10 yX10_find wsX10_find) := goodIn_app (goodIn_of _ (by decide +kernel)) ggX11_pave_X10_find
set_option maxRecDepth 20000 in
theorem ggX11_pave_X11_badLoad : GoodIn wsX11_pave wsX11_badLoad := goodIn_r _ [14, 15, 16, 13, 17] (by decide +kernel) (by decide +kernel)
set_option maxRecDepth 20000 in
theorem gX11_pave_X11_badLoad : GoodIn wsX11_pave (va_wsS RX11 135 yX11_badLoad wsX11_badLoad) := goodIn_app (goodIn_of _ (by decide +kernel)) ggX11_pave_X11_badLoad
set_option maxRecDepth 20000 in
theorem ggX11_pave_X10_take : GoodIn wsX11_pave wsX10_take := goodIn_r _ [21, 22, 23, 24, 25, 26, 10, 27, 9, 28, 29, 30, 31, 32, 33, 34, 35, 36, 7, 37, 38, 39, 225, 226, 227, 228, 229, 230, 231, 232, 233, 234, 235, 236, 237, 238, 239, 240, 219, 220, 221, 222, 223, 224] (by decide +kernel) (by decide +kernel)
set_option maxRecDepth 20000 in
theorem gX11_pave_X10_take : GoodIn wsX11_pave (wsV RX11 155 RX10 yX10_take wsX10_take) := goodIn_app (goodIn_of _ (by decide +kernel)) ggX11_pave_X10_take
set_option maxRecDepth 20000 in
theorem ggX11_pave_X10_lay : GoodIn wsX11_pave wsX10_lay := goodIn_r _ [43, 22, 34, 35, 36, 7, 37, 38, 39, 225, 226, 227, 228, 229, 230, 231, 232, 233, 234, 235, 236, 237, 238, 239, 240, 219, 220, 221, 222, 223, 224] (by decide +kernel) (by decide +kernel)
set_option maxRecDepth 20000 in
theorem gX11_pave_X10_lay : GoodIn wsX11_pave (wsV RX11 72 RX10 yX10_lay wsX10_lay) := goodIn_app (goodIn_of _ (by decide +kernel)) ggX11_pave_X10_lay
set_option maxRecDepth 20000 in
theorem ggX11_pave_X10_plan : GoodIn wsX11_pave wsX10_plan := goodIn_r _ [47, 38, 48, 39, 49, 27, 32, 50, 51, 52, 53, 54, 55, 56, 7, 57, 58, 59, 60, 61, 28, 62, 63, 64, 65, 66, 67, 68, 69, 70, 71, 72, 73, 74, 75, 76, 77, 78, 79, 80, 81, 82, 83, 84, 22, 85, 86, 87, 88, 89, 90, 91, 92, 93, 94, 95, 96, 97, 98, 99, 100, 101, 102, 103, 104, 105, 106, 107, 108, 109, 110, 111, 112, 113, 114, 115, 116, 117, 118, 119, 120, 121, 122, 123, 124, 125, 126, 127, 128, 129, 130, 131, 132, 133, 134, 135, 136, 137, 138, 139, 140, 141, 142, 143, 144, 145, 146, 147, 148, 149, 150, 151, 152, 153, 154, 155, 156, 157, 158, 159, 160, 161, 162, 163, 164, 165, 166, 167, 168, 169, 170, 171, 172, 173, 174, 175, 176, 177, 178, 179, 180, 181, 182, 183, 184, 185, 186, 187, 188, 189, 190, 191, 192, 193, 194, 195, 196, 197, 198, 199, 200, 201, 202, 203, 204, 205, 206, 207, 208, 209, 210, 211, 212, 225, 226, 227, 228, 229, 230, 231, 232, 233, 234, 235, 236, 237, 238, 239, 240, 241, 242, 243, 244, 245, 246, 247, 248, 249, 250, 251, 252, 253, 254, 255, 256, 257, 258, 259, 260, 261, 262, 263, 264, 265, 266, 267, 268, 219, 220, 221, 222, 223, 224, 269, 270, 271, 272, 273, 274, 275, 276] (by decide +kernel) (by decide +kernel)
set_option maxRecDepth 20000 in
theorem gX11_pave_X10_plan : GoodIn wsX11_pave (wsV RX11 139 RX10 yX10_plan wsX10_plan) := goodIn_app (goodIn_of _ (by decide +kernel)) ggX11_pave_X10_plan
theorem dX11_pave_0 : decode cX11_pave 0 = .ok (.aload_n 0, 1) := by decide +kernel
theorem dX11_pave_1 : decode cX11_pave 1 = .ok (.getfield 17, 3) := by decide +kernel
theorem dX11_pave_4 : decode cX11_pave 4 = .ok (.iload_n 1, 1) := by decide +kernel
theorem dX11_pave_5 : decode cX11_pave 5 = .ok (.invokevirtual 115, 3) := by decide +kernel
theorem dX11_pave_8 : decode cX11_pave 8 = .ok (.astore_n 3, 1) := by decide +kernel
theorem dX11_pave_9 : decode cX11_pave 9 = .ok (.aload_n 3, 1) := by decide +kernel
theorem dX11_pave_10 : decode cX11_pave 10 = .ok (.ifnonnull 5, 3) := by decide +kernel
theorem dX11_pave_13 : decode cX11_pave 13 = .ok (.iconst (-1), 1) := by decide +kernel
theorem dX11_pave_14 : decode cX11_pave 14 = .ok (.ireturn, 1) := by decide +kernel
theorem dX11_pave_15 : decode cX11_pave 15 = .ok (.iload_n 2, 1) := by decide +kernel
theorem dX11_pave_16 : decode cX11_pave 16 = .ok (.invokestatic 135, 3) := by decide +kernel
theorem dX11_pave_19 : decode cX11_pave 19 = .ok (.ifCond .eq 6, 3) := by decide +kernel
theorem dX11_pave_22 : decode cX11_pave 22 = .ok (.bipush (-2), 2) := by decide +kernel
theorem dX11_pave_24 : decode cX11_pave 24 = .ok (.ireturn, 1) := by decide +kernel
theorem dX11_pave_25 : decode cX11_pave 25 = .ok (.aload_n 0, 1) := by decide +kernel
theorem dX11_pave_26 : decode cX11_pave 26 = .ok (.getfield 26, 3) := by decide +kernel
theorem dX11_pave_29 : decode cX11_pave 29 = .ok (.aload_n 0, 1) := by decide +kernel
theorem dX11_pave_30 : decode cX11_pave 30 = .ok (.getfield 17, 3) := by decide +kernel
theorem dX11_pave_33 : decode cX11_pave 33 = .ok (.invokevirtual 155, 3) := by decide +kernel
theorem dX11_pave_36 : decode cX11_pave 36 = .ok (.iconst 0, 1) := by decide +kernel
theorem dX11_pave_37 : decode cX11_pave 37 = .ok (.istore 4, 2) := by decide +kernel
theorem dX11_pave_39 : decode cX11_pave 39 = .ok (.iconst 0, 1) := by decide +kernel
theorem dX11_pave_40 : decode cX11_pave 40 = .ok (.istore 5, 2) := by decide +kernel
theorem dX11_pave_42 : decode cX11_pave 42 = .ok (.iconst 0, 1) := by decide +kernel
theorem dX11_pave_43 : decode cX11_pave 43 = .ok (.istore 6, 2) := by decide +kernel
theorem dX11_pave_45 : decode cX11_pave 45 = .ok (.iload 6, 2) := by decide +kernel
theorem dX11_pave_47 : decode cX11_pave 47 = .ok (.bipush 10, 2) := by decide +kernel
theorem dX11_pave_49 : decode cX11_pave 49 = .ok (.if_icmp .ge 95, 3) := by decide +kernel
theorem dX11_pave_52 : decode cX11_pave 52 = .ok (.aload_n 0, 1) := by decide +kernel
theorem dX11_pave_53 : decode cX11_pave 53 = .ok (.getfield 26, 3) := by decide +kernel
theorem dX11_pave_56 : decode cX11_pave 56 = .ok (.iload 6, 2) := by decide +kernel
theorem dX11_pave_58 : decode cX11_pave 58 = .ok (.iconst 0, 1) := by decide +kernel
theorem dX11_pave_59 : decode cX11_pave 59 = .ok (.iconst 0, 1) := by decide +kernel
theorem dX11_pave_60 : decode cX11_pave 60 = .ok (.invokevirtual 72, 3) := by decide +kernel
theorem dX11_pave_63 : decode cX11_pave 63 = .ok (.istore 7, 2) := by decide +kernel
theorem dX11_pave_65 : decode cX11_pave 65 = .ok (.aload_n 0, 1) := by decide +kernel
theorem dX11_pave_66 : decode cX11_pave 66 = .ok (.getfield 26, 3) := by decide +kernel
theorem dX11_pave_69 : decode cX11_pave 69 = .ok (.iload 6, 2) := by decide +kernel
theorem dX11_pave_71 : decode cX11_pave 71 = .ok (.iconst 1, 1) := by decide +kernel
theorem dX11_pave_72 : decode cX11_pave 72 = .ok (.iconst 0, 1) := by decide +kernel
theorem dX11_pave_73 : decode cX11_pave 73 = .ok (.invokevirtual 72, 3) := by decide +kernel
theorem dX11_pave_76 : decode cX11_pave 76 = .ok (.istore 8, 2) := by decide +kernel
theorem dX11_pave_78 : decode cX11_pave 78 = .ok (.aload_n 0, 1) := by decide +kernel
theorem dX11_pave_79 : decode cX11_pave 79 = .ok (.getfield 26, 3) := by decide +kernel
theorem dX11_pave_82 : decode cX11_pave 82 = .ok (.aload_n 3, 1) := by decide +kernel
theorem dX11_pave_83 : decode cX11_pave 83 = .ok (.iload_n 2, 1) := by decide +kernel
theorem dX11_pave_84 : decode cX11_pave 84 = .ok (.invokevirtual 139, 3) := by decide +kernel
theorem dX11_pave_87 : decode cX11_pave 87 = .ok (.getfield 147, 3) := by decide +kernel
theorem dX11_pave_90 : decode cX11_pave 90 = .ok (.istore 9, 2) := by decide +kernel
theorem dX11_pave_92 : decode cX11_pave 92 = .ok (.aload_n 0, 1) := by decide +kernel
theorem dX11_pave_93 : decode cX11_pave 93 = .ok (.getfield 26, 3) := by decide +kernel
theorem dX11_pave_96 : decode cX11_pave 96 = .ok (.iload 6, 2) := by decide +kernel
theorem dX11_pave_98 : decode cX11_pave 98 = .ok (.iconst 0, 1) := by decide +kernel
theorem dX11_pave_99 : decode cX11_pave 99 = .ok (.iload 7, 2) := by decide +kernel
theorem dX11_pave_101 : decode cX11_pave 101 = .ok (.invokevirtual 72, 3) := by decide +kernel
theorem dX11_pave_104 : decode cX11_pave 104 = .ok (.pop, 1) := by decide +kernel
theorem dX11_pave_105 : decode cX11_pave 105 = .ok (.aload_n 0, 1) := by decide +kernel
theorem dX11_pave_106 : decode cX11_pave 106 = .ok (.getfield 26, 3) := by decide +kernel
theorem dX11_pave_109 : decode cX11_pave 109 = .ok (.iload 6, 2) := by decide +kernel
theorem dX11_pave_111 : decode cX11_pave 111 = .ok (.iconst 1, 1) := by decide +kernel
theorem dX11_pave_112 : decode cX11_pave 112 = .ok (.iload 8, 2) := by decide +kernel
theorem dX11_pave_114 : decode cX11_pave 114 = .ok (.invokevirtual 72, 3) := by decide +kernel
theorem dX11_pave_117 : decode cX11_pave 117 = .ok (.pop, 1) := by decide +kernel
theorem dX11_pave_118 : decode cX11_pave 118 = .ok (.iload 6, 2) := by decide +kernel
theorem dX11_pave_120 : decode cX11_pave 120 = .ok (.ifCond .eq 10, 3) := by decide +kernel
theorem dX11_pave_123 : decode cX11_pave 123 = .ok (.iload 9, 2) := by decide +kernel
theorem dX11_pave_125 : decode cX11_pave 125 = .ok (.iload 5, 2) := by decide +kernel
theorem dX11_pave_127 : decode cX11_pave 127 = .ok (.if_icmp .ge 11, 3) := by decide +kernel
theorem dX11_pave_130 : decode cX11_pave 130 = .ok (.iload 6, 2) := by decide +kernel
theorem dX11_pave_132 : decode cX11_pave 132 = .ok (.istore 4, 2) := by decide +kernel
theorem dX11_pave_134 : decode cX11_pave 134 = .ok (.iload 9, 2) := by decide +kernel
theorem dX11_pave_136 : decode cX11_pave 136 = .ok (.istore 5, 2) := by decide +kernel
theorem dX11_pave_138 : decode cX11_pave 138 = .ok (.iinc 6 1, 3) := by decide +kernel
theorem dX11_pave_141 : decode cX11_pave 141 = .ok (.goto (-96), 3) := by decide +kernel
theorem dX11_pave_144 : decode cX11_pave 144 = .ok (.iload 4, 2) := by decide +kernel
theorem dX11_pave_146 : decode cX11_pave 146 = .ok (.ireturn, 1) := by decide +kernel
set_option maxRecDepth 20000 in
theorem ggX11_odds_X10_find : GoodIn wsX11_odds wsX10_find := goodIn_r _ [7, 8, 9, 107, 108, 109, 110, 111, 112, 113, 114, 115, 116, 117, 118, 119, 120, 121, 122] (by decide +kernel) (by decide +kernel)
set_option maxRecDepth 20000 in
theorem gX11_odds_X10_find : GoodIn wsX11_odds (wsV RX11 115 RX10 yX10_find wsX10_find) := goodIn_app (goodIn_of _ (by decide +kernel)) ggX11_odds_X10_find
set_option maxRecDepth 20000 in
theorem ggX11_odds_X11_badLoad : GoodIn wsX11_odds wsX11_badLoad := goodIn_r _ [13, 14, 15, 12, 16] (by decide +kernel) (by decide +kernel)
set_option maxRecDepth 20000 in
theorem gX11_odds_X11_badLoad : GoodIn wsX11_odds (va_wsS RX11 135 yX11_badLoad wsX11_badLoad) := goodIn_app (goodIn_of _ (by decide +kernel)) ggX11_odds_X11_badLoad
set_option maxRecDepth 20000 in
theorem ggX11_odds_X11_outside : GoodIn wsX11_odds wsX11_outside := goodIn_r _ [16] (by decide +kernel) (by decide +kernel)
set_option maxRecDepth 20000 in
theorem gX11_odds_X11_outside : GoodIn wsX11_odds (va_wsS RX11 47 yX11_outside wsX11_outside) := goodIn_app (goodIn_of _ (by decide +kernel)) ggX11_odds_X11_outside
set_option maxRecDepth 20000 in
theorem ggX11_odds_X11_commonDivisor : GoodIn wsX11_odds wsX11_commonDivisor := goodIn_r _ [19] (by decide +kernel) (by decide +kernel)
set_option maxRecDepth 20000 in
theorem gX11_odds_X11_commonDivisor : GoodIn wsX11_odds (va_wsS RX11 190 yX11_commonDivisor wsX11_commonDivisor) := goodIn_app (goodIn_of _ (by decide +kernel)) ggX11_odds_X11_commonDivisor
set_option maxRecDepth 20000 in
theorem ggX11_odds_X10_risky : GoodIn wsX11_odds wsX10_risky := goodIn_r _ [23, 24, 25, 26, 27, 28, 29, 6, 30, 31, 32, 33, 34, 35, 36, 37, 38, 39, 40, 41, 42, 43, 44, 45, 46, 47, 48, 49, 50, 51, 52, 53, 54, 55, 56, 57, 58, 59, 60, 61, 62, 63, 64, 65, 66, 67, 68, 69, 70, 71, 72, 73, 74, 75, 76, 77, 78, 79, 80, 81, 82, 83, 84, 85, 86, 87, 88, 89, 90, 91, 92, 93, 94, 95, 96, 97, 98, 99, 100, 107, 108, 109, 110, 111, 112, 113, 114, 115, 116, 117, 118, 119, 120, 121, 122, 123, 124, 125, 126, 127, 128, 129, 130, 131, 132, 133, 134, 135, 136, 137, 138, 139, 140, 141, 142, 143, 144, 145, 146, 147, 148, 149, 150, 151, 152, 153, 154, 155, 156, 157, 158] (by decide +kernel) (by decide +kernel)
set_option maxRecDepth 20000 in
theorem gX11_odds_X10_risky : GoodIn wsX11_odds (wsV RX11 193 RX10 yX10_risky wsX10_risky) := goodIn_app (goodIn_of _ (by decide +kernel)) ggX11_odds_X10_risky
theorem dX11_odds_0 : decode cX11_odds 0 = .ok (.aload_n 0, 1) := by decide +kernel
theorem dX11_odds_1 : decode cX11_odds 1 = .ok (.getfield 17, 3) := by decide +kernel
theorem dX11_odds_4 : decode cX11_odds 4 = .ok (.iload_n 1, 1) := by decide +kernel
theorem dX11_odds_5 : decode cX11_odds 5 = .ok (.invokevirtual 115, 3) := by decide +kernel
theorem dX11_odds_8 : decode cX11_odds 8 = .ok (.astore 5, 2) := by decide +kernel
theorem dX11_odds_10 : decode cX11_odds 10 = .ok (.aload 5, 2) := by decide +kernel
theorem dX11_odds_12 : decode cX11_odds 12 = .ok (.ifnull 30, 3) := by decide +kernel
theorem dX11_odds_15 : decode cX11_odds 15 = .ok (.iload_n 2, 1) := by decide +kernel
theorem dX11_odds_16 : decode cX11_odds 16 = .ok (.invokestatic 135, 3) := by decide +kernel
theorem dX11_odds_19 : decode cX11_odds 19 = .ok (.ifCond .ne 23, 3) := by decide +kernel
theorem dX11_odds_22 : decode cX11_odds 22 = .ok (.iload_n 3, 1) := by decide +kernel
theorem dX11_odds_23 : decode cX11_odds 23 = .ok (.iconst 0, 1) := by decide +kernel
theorem dX11_odds_24 : decode cX11_odds 24 = .ok (.bipush 10, 2) := by decide +kernel
theorem dX11_odds_26 : decode cX11_odds 26 = .ok (.invokestatic 47, 3) := by decide +kernel
theorem dX11_odds_29 : decode cX11_odds 29 = .ok (.ifCond .ne 13, 3) := by decide +kernel
theorem dX11_odds_32 : decode cX11_odds 32 = .ok (.iload 4, 2) := by decide +kernel
theorem dX11_odds_34 : decode cX11_odds 34 = .ok (.iconst 0, 1) := by decide +kernel
theorem dX11_odds_35 : decode cX11_odds 35 = .ok (.iconst 1, 1) := by decide +kernel
theorem dX11_odds_36 : decode cX11_odds 36 = .ok (.invokestatic 47, 3) := by decide +kernel
theorem dX11_odds_39 : decode cX11_odds 39 = .ok (.ifCond .eq 7, 3) := by decide +kernel
theorem dX11_odds_42 : decode cX11_odds 42 = .ok (.ldc2_w 188, 3) := by decide +kernel
theorem dX11_odds_45 : decode cX11_odds 45 = .ok (.lreturn, 1) := by decide +kernel
theorem dX11_odds_46 : decode cX11_odds 46 = .ok (.bipush 10, 2) := by decide +kernel
theorem dX11_odds_48 : decode cX11_odds 48 = .ok (.bipush 10, 2) := by decide +kernel
theorem dX11_odds_50 : decode cX11_odds 50 = .ok (.iload_n 3, 1) := by decide +kernel
theorem dX11_odds_51 : decode cX11_odds 51 = .ok (.isub, 1) := by decide +kernel
theorem dX11_odds_52 : decode cX11_odds 52 = .ok (.invokestatic 190, 3) := by decide +kernel
theorem dX11_odds_55 : decode cX11_odds 55 = .ok (.istore 6, 2) := by decide +kernel
theorem dX11_odds_57 : decode cX11_odds 57 = .ok (.iload 4, 2) := by decide +kernel
theorem dX11_odds_59 : decode cX11_odds 59 = .ok (.ifCond .ne 10, 3) := by decide +kernel
theorem dX11_odds_62 : decode cX11_odds 62 = .ok (.bipush 10, 2) := by decide +kernel
theorem dX11_odds_64 : decode cX11_odds 64 = .ok (.iload_n 3, 1) := by decide +kernel
theorem dX11_odds_65 : decode cX11_odds 65 = .ok (.isub, 1) := by decide +kernel
theorem dX11_odds_66 : decode cX11_odds 66 = .ok (.goto 5, 3) := by decide +kernel
theorem dX11_odds_69 : decode cX11_odds 69 = .ok (.bipush 10, 2) := by decide +kernel
theorem dX11_odds_71 : decode cX11_odds 71 = .ok (.iload 6, 2) := by decide +kernel
theorem dX11_odds_73 : decode cX11_odds 73 = .ok (.idiv, 1) := by decide +kernel
theorem dX11_odds_74 : decode cX11_odds 74 = .ok (.istore 7, 2) := by decide +kernel
theorem dX11_odds_76 : decode cX11_odds 76 = .ok (.aload_n 0, 1) := by decide +kernel
theorem dX11_odds_77 : decode cX11_odds 77 = .ok (.getfield 17, 3) := by decide +kernel
theorem dX11_odds_80 : decode cX11_odds 80 = .ok (.aload 5, 2) := by decide +kernel
theorem dX11_odds_82 : decode cX11_odds 82 = .ok (.iload_n 2, 1) := by decide +kernel
theorem dX11_odds_83 : decode cX11_odds 83 = .ok (.invokevirtual 193, 3) := by decide +kernel
theorem dX11_odds_86 : decode cX11_odds 86 = .ok (.istore 8, 2) := by decide +kernel
theorem dX11_odds_88 : decode cX11_odds 88 = .ok (.lconst 1, 1) := by decide +kernel
theorem dX11_odds_89 : decode cX11_odds 89 = .ok (.lstore 9, 2) := by decide +kernel
theorem dX11_odds_91 : decode cX11_odds 91 = .ok (.iconst 0, 1) := by decide +kernel
theorem dX11_odds_92 : decode cX11_odds 92 = .ok (.istore 11, 2) := by decide +kernel
theorem dX11_odds_94 : decode cX11_odds 94 = .ok (.iload 11, 2) := by decide +kernel
theorem dX11_odds_96 : decode cX11_odds 96 = .ok (.iload 8, 2) := by decide +kernel
theorem dX11_odds_98 : decode cX11_odds 98 = .ok (.if_icmp .ge 17, 3) := by decide +kernel
theorem dX11_odds_101 : decode cX11_odds 101 = .ok (.lload 9, 2) := by decide +kernel
theorem dX11_odds_103 : decode cX11_odds 103 = .ok (.iload 7, 2) := by decide +kernel
theorem dX11_odds_105 : decode cX11_odds 105 = .ok (.i2l, 1) := by decide +kernel
theorem dX11_odds_106 : decode cX11_odds 106 = .ok (.lmul, 1) := by decide +kernel
theorem dX11_odds_107 : decode cX11_odds 107 = .ok (.lstore 9, 2) := by decide +kernel
theorem dX11_odds_109 : decode cX11_odds 109 = .ok (.iinc 11 1, 3) := by decide +kernel
theorem dX11_odds_112 : decode cX11_odds 112 = .ok (.goto (-18), 3) := by decide +kernel
theorem dX11_odds_115 : decode cX11_odds 115 = .ok (.lload 9, 2) := by decide +kernel
theorem dX11_odds_117 : decode cX11_odds 117 = .ok (.lreturn, 1) := by decide +kernel
set_option maxRecDepth 20000 in
theorem ggX11_book_X11_outside : GoodIn wsX11_book wsX11_outside := goodIn_r _ [7] (by decide +kernel) (by decide +kernel)
set_option maxRecDepth 20000 in
theorem gX11_book_X11_outside : GoodIn wsX11_book (va_wsS RX11 47 yX11_outside wsX11_outside) := goodIn_app (goodIn_of _ (by decide +kernel)) ggX11_book_X11_outside
theorem dX11_book_0 : decode cX11_book 0 = .ok (.iload_n 1, 1) := by decide +kernel
theorem dX11_book_1 : decode cX11_book 1 = .ok (.iconst (-1), 1) := by decide +kernel
theorem dX11_book_2 : decode cX11_book 2 = .ok (.if_icmp .ne 13, 3) := by decide +kernel
theorem dX11_book_5 : decode cX11_book 5 = .ok (.aload_n 0, 1) := by decide +kernel
theorem dX11_book_6 : decode cX11_book 6 = .ok (.getfield 17, 3) := by decide +kernel
theorem dX11_book_9 : decode cX11_book 9 = .ok (.iconst 0, 1) := by decide +kernel
theorem dX11_book_10 : decode cX11_book 10 = .ok (.putfield 197, 3) := by decide +kernel
theorem dX11_book_13 : decode cX11_book 13 = .ok (.iconst 0, 1) := by decide +kernel
theorem dX11_book_14 : decode cX11_book 14 = .ok (.ireturn, 1) := by decide +kernel
theorem dX11_book_15 : decode cX11_book 15 = .ok (.iload_n 1, 1) := by decide +kernel
theorem dX11_book_16 : decode cX11_book 16 = .ok (.iconst 0, 1) := by decide +kernel
theorem dX11_book_17 : decode cX11_book 17 = .ok (.sipush 9999, 3) := by decide +kernel
theorem dX11_book_20 : decode cX11_book 20 = .ok (.invokestatic 47, 3) := by decide +kernel
theorem dX11_book_23 : decode cX11_book 23 = .ok (.ifCond .eq 6, 3) := by decide +kernel
theorem dX11_book_26 : decode cX11_book 26 = .ok (.bipush (-2), 2) := by decide +kernel
theorem dX11_book_28 : decode cX11_book 28 = .ok (.ireturn, 1) := by decide +kernel
theorem dX11_book_29 : decode cX11_book 29 = .ok (.aload_n 0, 1) := by decide +kernel
theorem dX11_book_30 : decode cX11_book 30 = .ok (.getfield 17, 3) := by decide +kernel
theorem dX11_book_33 : decode cX11_book 33 = .ok (.getfield 197, 3) := by decide +kernel
theorem dX11_book_36 : decode cX11_book 36 = .ok (.bipush 12, 2) := by decide +kernel
theorem dX11_book_38 : decode cX11_book 38 = .ok (.if_icmp .lt 6, 3) := by decide +kernel
theorem dX11_book_41 : decode cX11_book 41 = .ok (.bipush (-4), 2) := by decide +kernel
theorem dX11_book_43 : decode cX11_book 43 = .ok (.ireturn, 1) := by decide +kernel
theorem dX11_book_44 : decode cX11_book 44 = .ok (.aload_n 0, 1) := by decide +kernel
theorem dX11_book_45 : decode cX11_book 45 = .ok (.getfield 17, 3) := by decide +kernel
theorem dX11_book_48 : decode cX11_book 48 = .ok (.getfield 200, 3) := by decide +kernel
theorem dX11_book_51 : decode cX11_book 51 = .ok (.aload_n 0, 1) := by decide +kernel
theorem dX11_book_52 : decode cX11_book 52 = .ok (.getfield 17, 3) := by decide +kernel
theorem dX11_book_55 : decode cX11_book 55 = .ok (.getfield 197, 3) := by decide +kernel
theorem dX11_book_58 : decode cX11_book 58 = .ok (.iload_n 1, 1) := by decide +kernel
theorem dX11_book_59 : decode cX11_book 59 = .ok (.iastore, 1) := by decide +kernel
theorem dX11_book_60 : decode cX11_book 60 = .ok (.aload_n 0, 1) := by decide +kernel
theorem dX11_book_61 : decode cX11_book 61 = .ok (.getfield 17, 3) := by decide +kernel
theorem dX11_book_64 : decode cX11_book 64 = .ok (.dup, 1) := by decide +kernel
theorem dX11_book_65 : decode cX11_book 65 = .ok (.getfield 197, 3) := by decide +kernel
theorem dX11_book_68 : decode cX11_book 68 = .ok (.iconst 1, 1) := by decide +kernel
theorem dX11_book_69 : decode cX11_book 69 = .ok (.iadd, 1) := by decide +kernel
theorem dX11_book_70 : decode cX11_book 70 = .ok (.putfield 197, 3) := by decide +kernel
theorem dX11_book_73 : decode cX11_book 73 = .ok (.aload_n 0, 1) := by decide +kernel
theorem dX11_book_74 : decode cX11_book 74 = .ok (.getfield 17, 3) := by decide +kernel
theorem dX11_book_77 : decode cX11_book 77 = .ok (.getfield 197, 3) := by decide +kernel
theorem dX11_book_80 : decode cX11_book 80 = .ok (.ireturn, 1) := by decide +kernel
set_option maxRecDepth 20000 in
theorem ggX11_looked_X10_find : GoodIn wsX11_looked wsX10_find := goodIn_r _ [10, 11, 12, 231, 232, 233, 234, 235, 236, 237, 238, 239, 240, 241, 242, 243, 244, 245, 246] (by decide +kernel) (by decide +kernel)
set_option maxRecDepth 20000 in
theorem gX11_looked_X10_find : GoodIn wsX11_looked (wsV RX11 115 RX10 yX10_find wsX10_find) := goodIn_app (goodIn_of _ (by decide +kernel)) ggX11_looked_X10_find
set_option maxRecDepth 20000 in
theorem ggX11_looked_X11_badLoad : GoodIn wsX11_looked wsX11_badLoad := goodIn_r _ [16, 17, 18, 15, 19] (by decide +kernel) (by decide +kernel)
set_option maxRecDepth 20000 in
theorem gX11_looked_X11_badLoad : GoodIn wsX11_looked (va_wsS RX11 135 yX11_badLoad wsX11_badLoad) := goodIn_app (goodIn_of _ (by decide +kernel)) ggX11_looked_X11_badLoad
set_option maxRecDepth 20000 in
theorem ggX11_looked_X10_take : GoodIn wsX11_looked wsX10_take := goodIn_r _ [23, 24, 25, 26, 27, 28, 12, 29, 11, 30, 31, 32, 33, 34, 35, 36, 37, 38, 9, 39, 40, 41, 231, 232, 233, 234, 235, 236, 237, 238, 239, 240, 241, 242, 243, 244, 245, 246, 247, 248, 249, 250, 251, 252] (by decide +kernel) (by decide +kernel)
set_option maxRecDepth 20000 in
theorem gX11_looked_X10_take : GoodIn wsX11_looked (wsV RX11 155 RX10 yX10_take wsX10_take) := goodIn_app (goodIn_of _ (by decide +kernel)) ggX11_looked_X10_take
set_option maxRecDepth 20000 in
theorem ggX11_looked_X10_plan : GoodIn wsX11_looked wsX10_plan := goodIn_r _ [45, 40, 46, 41, 47, 29, 34, 48, 49, 50, 51, 52, 53, 54, 9, 55, 56, 57, 58, 59, 30, 60, 61, 62, 63, 64, 65, 66, 67, 68, 69, 70, 71, 72, 73, 74, 75, 76, 77, 78, 79, 80, 81, 82, 24, 83, 84, 85, 86, 87, 88, 89, 90, 91, 92, 93, 94, 95, 96, 97, 98, 99, 100, 101, 102, 103, 104, 105, 106, 107, 108, 109, 110, 111, 112, 113, 114, 115, 116, 117, 118, 119, 120, 121, 122, 123, 124, 125, 126, 127, 128, 129, 130, 131, 132, 133, 134, 135, 136, 137, 138, 139, 140, 141, 142, 143, 144, 145, 146, 147, 148, 149, 150, 151, 152, 153, 154, 155, 156, 157, 158, 159, 160, 161, 162, 163, 164, 165, 166, 167, 168, 169, 170, 171, 172, 173, 174, 175, 176, 177, 178, 179, 180, 181, 182, 183, 184, 185, 186, 187, 188, 189, 190, 191, 192, 193, 194, 195, 196, 197, 198, 199, 200, 201, 202, 203, 204, 205, 206, 207, 208, 209, 210, 231, 232, 233, 234, 235, 236, 237, 238, 239, 240, 241, 242, 243, 244, 245, 246, 253, 254, 255, 256, 257, 258, 259, 260, 261, 262, 263, 264, 265, 266, 267, 268, 269, 270, 271, 272, 273, 274, 275, 276, 277, 278, 279, 280, 247, 248, 249, 250, 251, 252, 281, 282, 283, 284, 285, 286, 287, 288] (by decide +kernel) (by decide +kernel)
set_option maxRecDepth 20000 in
theorem gX11_looked_X10_plan : GoodIn wsX11_looked (wsV RX11 139 RX10 yX10_plan wsX10_plan) := goodIn_app (goodIn_of _ (by decide +kernel)) ggX11_looked_X10_plan
set_option maxRecDepth 20000 in
theorem ggX11_looked_X10_finish : GoodIn wsX11_looked wsX10_finish := goodIn_r _ [214, 30, 47, 31, 87, 32, 51, 215, 34, 216, 33, 217, 218, 219, 9, 220, 29, 46, 56, 57, 58, 59, 84, 85, 86, 221, 222, 223, 224, 24, 36, 37, 38, 39, 40, 41, 231, 232, 233, 234, 235, 236, 237, 238, 239, 240, 241, 242, 243, 244, 245, 246, 247, 248, 249, 250, 251, 252, 253, 254, 255, 256, 257, 258, 259, 260, 261, 262, 263, 264, 265, 266, 267, 268, 269, 270, 271, 272, 273, 274, 275, 276, 277, 278, 279, 280, 281, 282, 283, 284, 285, 286, 287, 288] (by decide +kernel) (by decide +kernel)
set_option maxRecDepth 20000 in
theorem gX11_looked_X10_finish : GoodIn wsX11_looked (wsV RX11 143 RX10 yX10_finish wsX10_finish) := goodIn_app (goodIn_of _ (by decide +kernel)) ggX11_looked_X10_finish
theorem dX11_looked_0 : decode cX11_looked 0 = .ok (.aload_n 0, 1) := by decide +kernel
theorem dX11_looked_1 : decode cX11_looked 1 = .ok (.getfield 17, 3) := by decide +kernel
theorem dX11_looked_4 : decode cX11_looked 4 = .ok (.iload_n 1, 1) := by decide +kernel
theorem dX11_looked_5 : decode cX11_looked 5 = .ok (.invokevirtual 115, 3) := by decide +kernel
theorem dX11_looked_8 : decode cX11_looked 8 = .ok (.astore_n 3, 1) := by decide +kernel
theorem dX11_looked_9 : decode cX11_looked 9 = .ok (.aload_n 3, 1) := by decide +kernel
theorem dX11_looked_10 : decode cX11_looked 10 = .ok (.ifnonnull 5, 3) := by decide +kernel
theorem dX11_looked_13 : decode cX11_looked 13 = .ok (.iconst (-1), 1) := by decide +kernel
theorem dX11_looked_14 : decode cX11_looked 14 = .ok (.ireturn, 1) := by decide +kernel
theorem dX11_looked_15 : decode cX11_looked 15 = .ok (.iload_n 2, 1) := by decide +kernel
theorem dX11_looked_16 : decode cX11_looked 16 = .ok (.invokestatic 135, 3) := by decide +kernel
theorem dX11_looked_19 : decode cX11_looked 19 = .ok (.ifCond .eq 6, 3) := by decide +kernel
theorem dX11_looked_22 : decode cX11_looked 22 = .ok (.bipush (-2), 2) := by decide +kernel
theorem dX11_looked_24 : decode cX11_looked 24 = .ok (.ireturn, 1) := by decide +kernel
theorem dX11_looked_25 : decode cX11_looked 25 = .ok (.aload_n 0, 1) := by decide +kernel
theorem dX11_looked_26 : decode cX11_looked 26 = .ok (.getfield 26, 3) := by decide +kernel
theorem dX11_looked_29 : decode cX11_looked 29 = .ok (.aload_n 0, 1) := by decide +kernel
theorem dX11_looked_30 : decode cX11_looked 30 = .ok (.getfield 17, 3) := by decide +kernel
theorem dX11_looked_33 : decode cX11_looked 33 = .ok (.invokevirtual 155, 3) := by decide +kernel
theorem dX11_looked_36 : decode cX11_looked 36 = .ok (.iconst 0, 1) := by decide +kernel
theorem dX11_looked_37 : decode cX11_looked 37 = .ok (.istore 4, 2) := by decide +kernel
theorem dX11_looked_39 : decode cX11_looked 39 = .ok (.iload 4, 2) := by decide +kernel
theorem dX11_looked_41 : decode cX11_looked 41 = .ok (.aload_n 0, 1) := by decide +kernel
theorem dX11_looked_42 : decode cX11_looked 42 = .ok (.getfield 17, 3) := by decide +kernel
theorem dX11_looked_45 : decode cX11_looked 45 = .ok (.getfield 197, 3) := by decide +kernel
theorem dX11_looked_48 : decode cX11_looked 48 = .ok (.if_icmp .ge 51, 3) := by decide +kernel
theorem dX11_looked_51 : decode cX11_looked 51 = .ok (.aload_n 0, 1) := by decide +kernel
theorem dX11_looked_52 : decode cX11_looked 52 = .ok (.getfield 26, 3) := by decide +kernel
theorem dX11_looked_55 : decode cX11_looked 55 = .ok (.aload_n 3, 1) := by decide +kernel
theorem dX11_looked_56 : decode cX11_looked 56 = .ok (.iload_n 2, 1) := by decide +kernel
theorem dX11_looked_57 : decode cX11_looked 57 = .ok (.invokevirtual 139, 3) := by decide +kernel
theorem dX11_looked_60 : decode cX11_looked 60 = .ok (.astore 5, 2) := by decide +kernel
theorem dX11_looked_62 : decode cX11_looked 62 = .ok (.aload 5, 2) := by decide +kernel
theorem dX11_looked_64 : decode cX11_looked 64 = .ok (.getfield 147, 3) := by decide +kernel
theorem dX11_looked_67 : decode cX11_looked 67 = .ok (.aload_n 0, 1) := by decide +kernel
theorem dX11_looked_68 : decode cX11_looked 68 = .ok (.getfield 17, 3) := by decide +kernel
theorem dX11_looked_71 : decode cX11_looked 71 = .ok (.getfield 200, 3) := by decide +kernel
theorem dX11_looked_74 : decode cX11_looked 74 = .ok (.iload 4, 2) := by decide +kernel
theorem dX11_looked_76 : decode cX11_looked 76 = .ok (.iaload, 1) := by decide +kernel
theorem dX11_looked_77 : decode cX11_looked 77 = .ok (.if_icmp .eq 6, 3) := by decide +kernel
theorem dX11_looked_80 : decode cX11_looked 80 = .ok (.iload 4, 2) := by decide +kernel
theorem dX11_looked_82 : decode cX11_looked 82 = .ok (.ireturn, 1) := by decide +kernel
theorem dX11_looked_83 : decode cX11_looked 83 = .ok (.aload_n 0, 1) := by decide +kernel
theorem dX11_looked_84 : decode cX11_looked 84 = .ok (.getfield 26, 3) := by decide +kernel
theorem dX11_looked_87 : decode cX11_looked 87 = .ok (.aload_n 3, 1) := by decide +kernel
theorem dX11_looked_88 : decode cX11_looked 88 = .ok (.aload 5, 2) := by decide +kernel
theorem dX11_looked_90 : decode cX11_looked 90 = .ok (.invokevirtual 143, 3) := by decide +kernel
theorem dX11_looked_93 : decode cX11_looked 93 = .ok (.iinc 4 1, 3) := by decide +kernel
theorem dX11_looked_96 : decode cX11_looked 96 = .ok (.goto (-57), 3) := by decide +kernel
theorem dX11_looked_99 : decode cX11_looked 99 = .ok (.bipush (-5), 2) := by decide +kernel
theorem dX11_looked_101 : decode cX11_looked 101 = .ok (.ireturn, 1) := by decide +kernel
set_option maxRecDepth 20000 in
theorem ggX11_act_Jx4a65c_clear_da8c8 : GoodIn wsX11_act wsJx4a65c_clear_da8c8 := goodIn_r _ [7, 8, 9, 10, 11, 179, 180, 181] (by decide +kernel) (by decide +kernel)
set_option maxRecDepth 20000 in
theorem gX11_act_Jx4a65c_clear_da8c8 : GoodIn wsX11_act (wsV RX11 203 RJx4a65c yJx4a65c_clear_da8c8 wsJx4a65c_clear_da8c8) := goodIn_app (goodIn_of _ (by decide +kernel)) ggX11_act_Jx4a65c_clear_da8c8
set_option maxRecDepth 20000 in
theorem ggX11_act_X10_find : GoodIn wsX11_act wsX10_find := goodIn_r _ [16, 17, 18, 182, 183, 184, 185, 186, 187, 188, 189, 190, 191, 192, 193, 194, 195, 196, 197] (by decide +kernel) (by decide +kernel)
set_option maxRecDepth 20000 in
theorem gX11_act_X10_find : GoodIn wsX11_act (wsV RX11 115 RX10 yX10_find wsX10_find) := goodIn_app (goodIn_of _ (by decide +kernel)) ggX11_act_X10_find
set_option maxRecDepth 20000 in
theorem ggX11_act_X0_lifts : GoodIn wsX11_act wsX0_lifts := goodIn_r _ [25, 26, 20, 27, 28, 29, 30, 31, 32, 33, 34, 35, 36, 37, 6, 38, 11, 39, 40, 41, 42, 43, 44, 45, 46, 47, 48, 49, 50, 51, 52, 53, 54, 55, 56, 57, 58, 59, 60, 61, 8, 9, 10, 62, 63, 64, 65, 66, 67, 68, 69, 70, 71, 72, 73, 74, 75, 76, 77, 78, 79, 80, 81, 82, 83, 84, 85, 86, 87, 88, 89, 90, 91, 92, 93, 94, 95, 96, 97, 98, 99, 100, 101, 102, 103, 104, 105, 106, 107, 108, 198, 199, 200, 201, 202, 203, 204, 205, 206, 207, 208, 209, 210, 211, 212, 213, 214, 215, 216, 217, 218, 219, 220, 221, 222, 223, 224, 225, 179, 180, 181, 226] (by decide +kernel) (by decide +kernel)
set_option maxRecDepth 20000 in
theorem gX11_act_X0_lifts_u206X0 : GoodIn wsX11_act (va_wsO RX11 206 RX0 "BarrowPlank$Man" ⟨"BarrowPlank$Man", "lifts", "(ILjava/util/List;)I"⟩ yX0_lifts wsX0_lifts) := goodIn_app (goodIn_of _ (by decide +kernel)) ggX11_act_X0_lifts
set_option maxRecDepth 20000 in
theorem gX11_act_X0_lifts_u206X1 : GoodIn wsX11_act (va_wsO RX11 206 RX1 "BarrowPlank$Man" ⟨"BarrowPlank$Man", "lifts", "(ILjava/util/List;)I"⟩ yX0_lifts wsX0_lifts) := goodIn_app (goodIn_of _ (by decide +kernel)) ggX11_act_X0_lifts
set_option maxRecDepth 20000 in
theorem ggX11_act_X2_lifts : GoodIn wsX11_act wsX2_lifts := goodIn_r _ [30, 31, 32, 33, 29, 34, 35, 36, 37, 6, 38, 11, 39, 40, 41, 42, 43, 44, 45, 46, 47, 48, 49, 50, 51, 52, 53, 54, 55, 56, 57, 58, 59, 60, 61, 8, 9, 10, 62, 63, 64, 65, 66, 67, 68, 69, 70, 71, 72, 73, 74, 75, 76, 77, 78, 79, 80, 81, 82, 83, 84, 85, 86, 87, 88, 89, 90, 91, 92, 93, 94, 95, 96, 97, 98, 99, 100, 101, 102, 103, 104, 105, 106, 107, 108, 198, 199, 200, 201, 202, 203, 204, 205, 206, 207, 208, 209, 210, 211, 212, 213, 214, 215, 216, 217, 218, 219, 220, 221, 222, 223, 224, 225, 179, 180, 181, 226] (by decide +kernel) (by decide +kernel)
set_option maxRecDepth 20000 in
theorem gX11_act_X2_lifts : GoodIn wsX11_act (wsV RX11 206 RX2 yX2_lifts wsX2_lifts) := goodIn_app (goodIn_of _ (by decide +kernel)) ggX11_act_X2_lifts
set_option maxRecDepth 20000 in
theorem gX11_act_X2_lifts_u206X3 : GoodIn wsX11_act (va_wsU RX11 206 RX3 "BarrowPlank$Man" ⟨"BarrowPlank$Man", "lifts", "(ILjava/util/List;)I"⟩ yX2_lifts wsX2_lifts) := goodIn_app (goodIn_of _ (by decide +kernel)) ggX11_act_X2_lifts
set_option maxRecDepth 20000 in
theorem gX11_act_X2_lifts_u206X6 : GoodIn wsX11_act (va_wsU RX11 206 RX6 "BarrowPlank$Man" ⟨"BarrowPlank$Man", "lifts", "(ILjava/util/List;)I"⟩ yX2_lifts wsX2_lifts) := goodIn_app (goodIn_of _ (by decide +kernel)) ggX11_act_X2_lifts
set_option maxRecDepth 20000 in
theorem ggX11_act_X7_lifts : GoodIn wsX11_act wsX7_lifts := goodIn_r _ [117, 118, 119, 198, 199, 200, 201, 202, 203, 204, 205, 206, 207, 208, 209, 210, 211, 212, 213, 214, 215, 216, 217, 218, 219, 220, 221, 222, 223, 224, 225] (by decide +kernel) (by decide +kernel)
set_option maxRecDepth 20000 in
theorem gX11_act_X7_lifts_u206X7 : GoodIn wsX11_act (va_wsO RX11 206 RX7 "BarrowPlank$Man" ⟨"BarrowPlank$Man", "lifts", "(ILjava/util/List;)I"⟩ yX7_lifts wsX7_lifts) := goodIn_app (goodIn_of _ (by decide +kernel)) ggX11_act_X7_lifts
set_option maxRecDepth 20000 in
theorem gX11_act_X2_lifts_u206X9 : GoodIn wsX11_act (va_wsU RX11 206 RX9 "BarrowPlank$Man" ⟨"BarrowPlank$Man", "lifts", "(ILjava/util/List;)I"⟩ yX2_lifts wsX2_lifts) := goodIn_app (goodIn_of _ (by decide +kernel)) ggX11_act_X2_lifts
set_option maxRecDepth 20000 in
theorem ggX11_act_X2_goes : GoodIn wsX11_act wsX2_goes := goodIn_r _ [125, 126, 32, 33, 29, 34, 35, 36, 37, 6, 38, 11, 39, 40, 41, 42, 43, 44, 45, 46, 47, 48, 49, 50, 51, 52, 53, 54, 55, 56, 57, 58, 59, 60, 61, 8, 9, 10, 62, 63, 64, 65, 66, 67, 68, 69, 70, 71, 72, 73, 74, 75, 76, 77, 78, 79, 80, 81, 82, 83, 84, 85, 86, 87, 88, 89, 90, 91, 92, 93, 94, 95, 96, 97, 98, 99, 100, 101, 102, 103, 104, 105, 106, 107, 108, 127, 20, 21, 22, 23, 24, 25, 26, 27, 28, 30, 31, 109, 128, 111, 112, 113, 114, 115, 116, 117, 118, 119, 120, 198, 199, 200, 201, 202, 203, 204, 205, 206, 207, 208, 209, 210, 211, 212, 213, 214, 215, 216, 217, 218, 219, 220, 221, 222, 223, 224, 225, 179, 180, 181, 226] (by decide +kernel) (by decide +kernel)
set_option maxRecDepth 20000 in
theorem gX11_act_X2_goes_u210X0 : GoodIn wsX11_act (va_wsU RX11 210 RX0 "BarrowPlank$Man" ⟨"BarrowPlank$Man", "goes", "(ILjava/util/List;)I"⟩ yX2_goes wsX2_goes) := goodIn_app (goodIn_of _ (by decide +kernel)) ggX11_act_X2_goes
set_option maxRecDepth 20000 in
theorem gX11_act_X2_goes_u210X1 : GoodIn wsX11_act (va_wsU RX11 210 RX1 "BarrowPlank$Man" ⟨"BarrowPlank$Man", "goes", "(ILjava/util/List;)I"⟩ yX2_goes wsX2_goes) := goodIn_app (goodIn_of _ (by decide +kernel)) ggX11_act_X2_goes
set_option maxRecDepth 20000 in
theorem gX11_act_X2_goes : GoodIn wsX11_act (wsV RX11 210 RX2 yX2_goes wsX2_goes) := goodIn_app (goodIn_of _ (by decide +kernel)) ggX11_act_X2_goes
set_option maxRecDepth 20000 in
theorem ggX11_act_X3_goes : GoodIn wsX11_act wsX3_goes := goodIn_r _ [136, 137, 138, 198, 199, 200, 201, 202, 203, 204, 205, 206, 207, 208, 209, 210, 211, 212, 213, 214, 215, 216, 217, 218, 219, 220, 221, 222, 223, 224, 225] (by decide +kernel) (by decide +kernel)
set_option maxRecDepth 20000 in
theorem gX11_act_X3_goes_u210X3 : GoodIn wsX11_act (va_wsO RX11 210 RX3 "BarrowPlank$Man" ⟨"BarrowPlank$Man", "goes", "(ILjava/util/List;)I"⟩ yX3_goes wsX3_goes) := goodIn_app (goodIn_of _ (by decide +kernel)) ggX11_act_X3_goes
set_option maxRecDepth 20000 in
theorem gX11_act_X2_goes_u210X6 : GoodIn wsX11_act (va_wsU RX11 210 RX6 "BarrowPlank$Man" ⟨"BarrowPlank$Man", "goes", "(ILjava/util/List;)I"⟩ yX2_goes wsX2_goes) := goodIn_app (goodIn_of _ (by decide +kernel)) ggX11_act_X2_goes
set_option maxRecDepth 20000 in
theorem ggX11_act_X9_goes : GoodIn wsX11_act wsX9_goes := goodIn_r _ [143, 144, 122, 145, 124, 29, 125, 126, 32, 33, 34, 35, 36, 37, 6, 38, 11, 39, 40, 41, 42, 43, 44, 45, 46, 47, 48, 49, 50, 51, 52, 53, 54, 55, 56, 57, 58, 59, 60, 61, 8, 9, 10, 62, 63, 64, 65, 66, 67, 68, 69, 70, 71, 72, 73, 74, 75, 76, 77, 78, 79, 80, 81, 82, 83, 84, 85, 86, 87, 88, 89, 90, 91, 92, 93, 94, 95, 96, 97, 98, 99, 100, 101, 102, 103, 104, 105, 106, 107, 108, 127, 20, 21, 22, 23, 24, 25, 26, 27, 28, 30, 31, 109, 128, 111, 112, 113, 114, 115, 116, 117, 118, 119, 120, 198, 199, 200, 201, 202, 203, 204, 205, 206, 207, 208, 209, 210, 211, 212, 213, 214, 215, 216, 217, 218, 219, 220, 221, 222, 223, 224, 225, 179, 180, 181, 226] (by decide +kernel) (by decide +kernel)
set_option maxRecDepth 20000 in
theorem gX11_act_X9_goes_u210X7 : GoodIn wsX11_act (va_wsO RX11 210 RX7 "BarrowPlank$Man" ⟨"BarrowPlank$Man", "goes", "(ILjava/util/List;)I"⟩ yX9_goes wsX9_goes) := goodIn_app (goodIn_of _ (by decide +kernel)) ggX11_act_X9_goes
set_option maxRecDepth 20000 in
theorem gX11_act_X9_goes_u210X9 : GoodIn wsX11_act (va_wsO RX11 210 RX9 "BarrowPlank$Man" ⟨"BarrowPlank$Man", "goes", "(ILjava/util/List;)I"⟩ yX9_goes wsX9_goes) := goodIn_app (goodIn_of _ (by decide +kernel)) ggX11_act_X9_goes
set_option maxRecDepth 20000 in
theorem ggX11_act_X2_tires : GoodIn wsX11_act wsX2_tires := goodIn_r _ [151, 32, 33, 29, 34, 35, 36, 37, 6, 38, 11, 39, 40, 41, 42, 43, 44, 45, 46, 47, 48, 49, 50, 51, 52, 53, 54, 55, 56, 57, 58, 59, 60, 61, 8, 9, 10, 62, 63, 64, 65, 66, 67, 68, 69, 70, 71, 72, 73, 74, 75, 76, 77, 78, 79, 80, 81, 82, 83, 84, 85, 86, 87, 88, 89, 90, 91, 92, 93, 94, 95, 96, 97, 98, 99, 100, 101, 102, 103, 104, 105, 106, 107, 108, 152, 122, 123, 124, 125, 126, 127, 20, 21, 22, 23, 24, 25, 26, 27, 28, 30, 31, 109, 128, 111, 112, 113, 114, 115, 116, 117, 118, 119, 120, 129, 153, 131, 132, 133, 134, 135, 136, 137, 138, 139, 140, 141, 142, 143, 144, 145, 146, 179, 180, 181, 226, 198, 199, 200, 201, 202, 203, 204, 205, 206, 207, 208, 209, 210, 211, 212, 213, 214, 215, 216, 217, 218, 219, 220, 221, 222, 223, 224, 225] (by decide +kernel) (by decide +kernel)
set_option maxRecDepth 20000 in
theorem gX11_act_X2_tires_u213X0 : GoodIn wsX11_act (va_wsU RX11 213 RX0 "BarrowPlank$Man" ⟨"BarrowPlank$Man", "tires", "(ILjava/util/List;)I"⟩ yX2_tires wsX2_tires) := goodIn_app (goodIn_of _ (by decide +kernel)) ggX11_act_X2_tires
set_option maxRecDepth 20000 in
theorem ggX11_act_X1_tires : GoodIn wsX11_act wsX1_tires := goodIn_r _ [158, 159, 160, 161, 23, 24, 25, 26, 20, 27, 28, 29, 30, 31, 32, 33, 34, 35, 36, 37, 6, 38, 11, 39, 40, 41, 42, 43, 44, 45, 46, 47, 48, 49, 50, 51, 52, 53, 54, 55, 56, 57, 58, 59, 60, 61, 8, 9, 10, 62, 63, 64, 65, 66, 67, 68, 69, 70, 71, 72, 73, 74, 75, 76, 77, 78, 79, 80, 81, 82, 83, 84, 85, 86, 87, 88, 89, 90, 91, 92, 93, 94, 95, 96, 97, 98, 99, 100, 101, 102, 103, 104, 105, 106, 107, 108, 198, 199, 200, 201, 202, 203, 204, 205, 206, 207, 208, 209, 210, 211, 212, 213, 214, 215, 216, 217, 218, 219, 220, 221, 222, 223, 224, 225, 179, 180, 181, 226] (by decide +kernel) (by decide +kernel)
set_option maxRecDepth 20000 in
theorem gX11_act_X1_tires_u213X1 : GoodIn wsX11_act (va_wsO RX11 213 RX1 "BarrowPlank$Man" ⟨"BarrowPlank$Man", "tires", "(ILjava/util/List;)I"⟩ yX1_tires wsX1_tires) := goodIn_app (goodIn_of _ (by decide +kernel)) ggX11_act_X1_tires
set_option maxRecDepth 20000 in
theorem gX11_act_X2_tires : GoodIn wsX11_act (wsV RX11 213 RX2 yX2_tires wsX2_tires) := goodIn_app (goodIn_of _ (by decide +kernel)) ggX11_act_X2_tires
set_option maxRecDepth 20000 in
theorem ggX11_act_X6_tires : GoodIn wsX11_act wsX6_tires := goodIn_r _ [167, 168, 148, 169, 150, 29, 151, 32, 33, 34, 35, 36, 37, 6, 38, 11, 39, 40, 41, 42, 43, 44, 45, 46, 47, 48, 49, 50, 51, 52, 53, 54, 55, 56, 57, 58, 59, 60, 61, 8, 9, 10, 62, 63, 64, 65, 66, 67, 68, 69, 70, 71, 72, 73, 74, 75, 76, 77, 78, 79, 80, 81, 82, 83, 84, 85, 86, 87, 88, 89, 90, 91, 92, 93, 94, 95, 96, 97, 98, 99, 100, 101, 102, 103, 104, 105, 106, 107, 108, 152, 122, 123, 124, 125, 126, 127, 20, 21, 22, 23, 24, 25, 26, 27, 28, 30, 31, 109, 128, 111, 112, 113, 114, 115, 116, 117, 118, 119, 120, 129, 153, 131, 132, 133, 134, 135, 136, 137, 138, 139, 140, 141, 142, 143, 144, 145, 146, 179, 180, 181, 226, 198, 199, 200, 201, 202, 203, 204, 205, 206, 207, 208, 209, 210, 211, 212, 213, 214, 215, 216, 217, 218, 219, 220, 221, 222, 223, 224, 225] (by decide +kernel) (by decide +kernel)
set_option maxRecDepth 20000 in
theorem gX11_act_X6_tires_u213X3 : GoodIn wsX11_act (va_wsO RX11 213 RX3 "BarrowPlank$Man" ⟨"BarrowPlank$Man", "tires", "(ILjava/util/List;)I"⟩ yX6_tires wsX6_tires) := goodIn_app (goodIn_of _ (by decide +kernel)) ggX11_act_X6_tires
set_option maxRecDepth 20000 in
theorem gX11_act_X6_tires_u213X6 : GoodIn wsX11_act (va_wsO RX11 213 RX6 "BarrowPlank$Man" ⟨"BarrowPlank$Man", "tires", "(ILjava/util/List;)I"⟩ yX6_tires wsX6_tires) := goodIn_app (goodIn_of _ (by decide +kernel)) ggX11_act_X6_tires
set_option maxRecDepth 20000 in
theorem gX11_act_X2_tires_u213X7 : GoodIn wsX11_act (va_wsU RX11 213 RX7 "BarrowPlank$Man" ⟨"BarrowPlank$Man", "tires", "(ILjava/util/List;)I"⟩ yX2_tires wsX2_tires) := goodIn_app (goodIn_of _ (by decide +kernel)) ggX11_act_X2_tires
set_option maxRecDepth 20000 in
theorem gX11_act_X2_tires_u213X9 : GoodIn wsX11_act (va_wsU RX11 213 RX9 "BarrowPlank$Man" ⟨"BarrowPlank$Man", "tires", "(ILjava/util/List;)I"⟩ yX2_tires wsX2_tires) := goodIn_app (goodIn_of _ (by decide +kernel)) ggX11_act_X2_tires
theorem dX11_act_0 : decode cX11_act 0 = .ok (.aload_n 0, 1) := by decide +kernel
theorem dX11_act_1 : decode cX11_act 1 = .ok (.getfield 39, 3) := by decide +kernel
theorem dX11_act_4 : decode cX11_act 4 = .ok (.invokevirtual 203, 3) := by decide +kernel
theorem dX11_act_7 : decode cX11_act 7 = .ok (.aload_n 0, 1) := by decide +kernel
theorem dX11_act_8 : decode cX11_act 8 = .ok (.getfield 17, 3) := by decide +kernel
theorem dX11_act_11 : decode cX11_act 11 = .ok (.iload_n 1, 1) := by decide +kernel
theorem dX11_act_12 : decode cX11_act 12 = .ok (.invokevirtual 115, 3) := by decide +kernel
theorem dX11_act_15 : decode cX11_act 15 = .ok (.astore 4, 2) := by decide +kernel
theorem dX11_act_17 : decode cX11_act 17 = .ok (.aload 4, 2) := by decide +kernel
theorem dX11_act_19 : decode cX11_act 19 = .ok (.ifnonnull 5, 3) := by decide +kernel
theorem dX11_act_22 : decode cX11_act 22 = .ok (.iconst 0, 1) := by decide +kernel
theorem dX11_act_23 : decode cX11_act 23 = .ok (.ireturn, 1) := by decide +kernel
theorem dX11_act_24 : decode cX11_act 24 = .ok (.iload_n 2, 1) := by decide +kernel
theorem dX11_act_25 : decode cX11_act 25 = .ok (.tableswitch 60 0 2 #[27, 38, 49], 27) := by decide +kernel
theorem dX11_act_52 : decode cX11_act 52 = .ok (.aload 4, 2) := by decide +kernel
theorem dX11_act_54 : decode cX11_act 54 = .ok (.iload_n 3, 1) := by decide +kernel
theorem dX11_act_55 : decode cX11_act 55 = .ok (.aload_n 0, 1) := by decide +kernel
theorem dX11_act_56 : decode cX11_act 56 = .ok (.getfield 39, 3) := by decide +kernel
theorem dX11_act_59 : decode cX11_act 59 = .ok (.invokevirtual 206, 3) := by decide +kernel
theorem dX11_act_62 : decode cX11_act 62 = .ok (.ireturn, 1) := by decide +kernel
theorem dX11_act_63 : decode cX11_act 63 = .ok (.aload 4, 2) := by decide +kernel
theorem dX11_act_65 : decode cX11_act 65 = .ok (.iload_n 3, 1) := by decide +kernel
theorem dX11_act_66 : decode cX11_act 66 = .ok (.aload_n 0, 1) := by decide +kernel
theorem dX11_act_67 : decode cX11_act 67 = .ok (.getfield 39, 3) := by decide +kernel
theorem dX11_act_70 : decode cX11_act 70 = .ok (.invokevirtual 210, 3) := by decide +kernel
theorem dX11_act_73 : decode cX11_act 73 = .ok (.ireturn, 1) := by decide +kernel
theorem dX11_act_74 : decode cX11_act 74 = .ok (.aload 4, 2) := by decide +kernel
theorem dX11_act_76 : decode cX11_act 76 = .ok (.iload_n 3, 1) := by decide +kernel
theorem dX11_act_77 : decode cX11_act 77 = .ok (.aload_n 0, 1) := by decide +kernel
theorem dX11_act_78 : decode cX11_act 78 = .ok (.getfield 39, 3) := by decide +kernel
theorem dX11_act_81 : decode cX11_act 81 = .ok (.invokevirtual 213, 3) := by decide +kernel
theorem dX11_act_84 : decode cX11_act 84 = .ok (.ireturn, 1) := by decide +kernel
theorem dX11_act_85 : decode cX11_act 85 = .ok (.iconst 0, 1) := by decide +kernel
theorem dX11_act_86 : decode cX11_act 86 = .ok (.ireturn, 1) := by decide +kernel
set_option maxRecDepth 20000 in
theorem ggX11_trace_Jx4a65c_size_8abf5 : GoodIn wsX11_trace wsJx4a65c_size_8abf5 := goodIn_r _ [7, 8, 38, 39, 40] (by decide +kernel) (by decide +kernel)
set_option maxRecDepth 20000 in
theorem gX11_trace_Jx4a65c_size_8abf5 : GoodIn wsX11_trace (wsV RX11 216 RJx4a65c yJx4a65c_size_8abf5 wsJx4a65c_size_8abf5) := goodIn_app (goodIn_of _ (by decide +kernel)) ggX11_trace_Jx4a65c_size_8abf5
set_option maxRecDepth 20000 in
theorem ggX11_trace_Jx4a65c_get_915e3 : GoodIn wsX11_trace wsJx4a65c_get_915e3 := goodIn_r _ [12, 8, 13, 14, 15, 16, 17, 18, 19, 20, 21, 22, 23, 6, 24, 25, 38, 39, 40] (by decide +kernel) (by decide +kernel)
set_option maxRecDepth 20000 in
theorem gX11_trace_Jx4a65c_get_915e3 : GoodIn wsX11_trace (wsV RX11 220 RJx4a65c yJx4a65c_get_915e3 wsJx4a65c_get_915e3) := goodIn_app (goodIn_of _ (by decide +kernel)) ggX11_trace_Jx4a65c_get_915e3
set_option maxRecDepth 20000 in
theorem ggX11_trace_J6_intValue_8abf5 : GoodIn wsX11_trace wsJ6_intValue_8abf5 := goodIn_r _ [30, 31, 41] (by decide +kernel) (by decide +kernel)
set_option maxRecDepth 20000 in
theorem gX11_trace_J6_intValue_8abf5 : GoodIn wsX11_trace (wsV RX11 224 RJ6 yJ6_intValue_8abf5 wsJ6_intValue_8abf5) := goodIn_app (goodIn_of _ (by decide +kernel)) ggX11_trace_J6_intValue_8abf5
theorem dX11_trace_0 : decode cX11_trace 0 = .ok (.iload_n 1, 1) := by decide +kernel
theorem dX11_trace_1 : decode cX11_trace 1 = .ok (.ifCond .lt 14, 3) := by decide +kernel
theorem dX11_trace_4 : decode cX11_trace 4 = .ok (.iload_n 1, 1) := by decide +kernel
theorem dX11_trace_5 : decode cX11_trace 5 = .ok (.aload_n 0, 1) := by decide +kernel
theorem dX11_trace_6 : decode cX11_trace 6 = .ok (.getfield 39, 3) := by decide +kernel
theorem dX11_trace_9 : decode cX11_trace 9 = .ok (.invokevirtual 216, 3) := by decide +kernel
theorem dX11_trace_12 : decode cX11_trace 12 = .ok (.if_icmp .lt 5, 3) := by decide +kernel
theorem dX11_trace_15 : decode cX11_trace 15 = .ok (.iconst (-1), 1) := by decide +kernel
theorem dX11_trace_16 : decode cX11_trace 16 = .ok (.ireturn, 1) := by decide +kernel
theorem dX11_trace_17 : decode cX11_trace 17 = .ok (.aload_n 0, 1) := by decide +kernel
theorem dX11_trace_18 : decode cX11_trace 18 = .ok (.getfield 39, 3) := by decide +kernel
theorem dX11_trace_21 : decode cX11_trace 21 = .ok (.iload_n 1, 1) := by decide +kernel
theorem dX11_trace_22 : decode cX11_trace 22 = .ok (.invokevirtual 220, 3) := by decide +kernel
theorem dX11_trace_25 : decode cX11_trace 25 = .ok (.checkcast 164, 3) := by decide +kernel
theorem dX11_trace_28 : decode cX11_trace 28 = .ok (.invokevirtual 224, 3) := by decide +kernel
theorem dX11_trace_31 : decode cX11_trace 31 = .ok (.ireturn, 1) := by decide +kernel
set_option maxRecDepth 20000 in
theorem ggX11_as_X10_find : GoodIn wsX11_as wsX10_find := goodIn_r _ [7, 8, 9, 67, 68, 69, 70, 71, 72, 73, 74, 75, 76, 77, 78, 79, 80, 81, 82] (by decide +kernel) (by decide +kernel)
set_option maxRecDepth 20000 in
theorem gX11_as_X10_find : GoodIn wsX11_as (wsV RX11 115 RX10 yX10_find wsX10_find) := goodIn_app (goodIn_of _ (by decide +kernel)) ggX11_as_X10_find
set_option maxRecDepth 20000 in
theorem ggX11_as_X11_outside : GoodIn wsX11_as wsX11_outside := goodIn_r _ [13] (by decide +kernel) (by decide +kernel)
set_option maxRecDepth 20000 in
theorem gX11_as_X11_outside : GoodIn wsX11_as (va_wsS RX11 47 yX11_outside wsX11_outside) := goodIn_app (goodIn_of _ (by decide +kernel)) ggX11_as_X11_outside
set_option maxRecDepth 20000 in
theorem ggX11_as_X2_isUnder : GoodIn wsX11_as wsX2_isUnder := goodIn_r _ [19, 20, 21, 22, 23, 24, 25] (by decide +kernel) (by decide +kernel)
set_option maxRecDepth 20000 in
theorem gX11_as_X2_isUnder_u227X0 : GoodIn wsX11_as (va_wsU RX11 227 RX0 "BarrowPlank$Man" ⟨"BarrowPlank$Man", "isUnder", "(I)Z"⟩ yX2_isUnder wsX2_isUnder) := goodIn_app (goodIn_of _ (by decide +kernel)) ggX11_as_X2_isUnder
set_option maxRecDepth 20000 in
theorem gX11_as_X2_isUnder_u227X1 : GoodIn wsX11_as (va_wsU RX11 227 RX1 "BarrowPlank$Man" ⟨"BarrowPlank$Man", "isUnder", "(I)Z"⟩ yX2_isUnder wsX2_isUnder) := goodIn_app (goodIn_of _ (by decide +kernel)) ggX11_as_X2_isUnder
set_option maxRecDepth 20000 in
theorem gX11_as_X2_isUnder : GoodIn wsX11_as (wsV RX11 227 RX2 yX2_isUnder wsX2_isUnder) := goodIn_app (goodIn_of _ (by decide +kernel)) ggX11_as_X2_isUnder
set_option maxRecDepth 20000 in
theorem gX11_as_X2_isUnder_u227X3 : GoodIn wsX11_as (va_wsU RX11 227 RX3 "BarrowPlank$Man" ⟨"BarrowPlank$Man", "isUnder", "(I)Z"⟩ yX2_isUnder wsX2_isUnder) := goodIn_app (goodIn_of _ (by decide +kernel)) ggX11_as_X2_isUnder
set_option maxRecDepth 20000 in
theorem gX11_as_X2_isUnder_u227X6 : GoodIn wsX11_as (va_wsU RX11 227 RX6 "BarrowPlank$Man" ⟨"BarrowPlank$Man", "isUnder", "(I)Z"⟩ yX2_isUnder wsX2_isUnder) := goodIn_app (goodIn_of _ (by decide +kernel)) ggX11_as_X2_isUnder
set_option maxRecDepth 20000 in
theorem gX11_as_X2_isUnder_u227X7 : GoodIn wsX11_as (va_wsU RX11 227 RX7 "BarrowPlank$Man" ⟨"BarrowPlank$Man", "isUnder", "(I)Z"⟩ yX2_isUnder wsX2_isUnder) := goodIn_app (goodIn_of _ (by decide +kernel)) ggX11_as_X2_isUnder
set_option maxRecDepth 20000 in
theorem gX11_as_X2_isUnder_u227X9 : GoodIn wsX11_as (va_wsU RX11 227 RX9 "BarrowPlank$Man" ⟨"BarrowPlank$Man", "isUnder", "(I)Z"⟩ yX2_isUnder wsX2_isUnder) := goodIn_app (goodIn_of _ (by decide +kernel)) ggX11_as_X2_isUnder
theorem dX11_as_0 : decode cX11_as 0 = .ok (.aload_n 0, 1) := by decide +kernel
theorem dX11_as_1 : decode cX11_as 1 = .ok (.getfield 17, 3) := by decide +kernel
theorem dX11_as_4 : decode cX11_as 4 = .ok (.iload_n 1, 1) := by decide +kernel
theorem dX11_as_5 : decode cX11_as 5 = .ok (.invokevirtual 115, 3) := by decide +kernel
theorem dX11_as_8 : decode cX11_as 8 = .ok (.astore_n 3, 1) := by decide +kernel
theorem dX11_as_9 : decode cX11_as 9 = .ok (.aload_n 3, 1) := by decide +kernel
theorem dX11_as_10 : decode cX11_as 10 = .ok (.ifnull 13, 3) := by decide +kernel
theorem dX11_as_13 : decode cX11_as 13 = .ok (.iload_n 2, 1) := by decide +kernel
theorem dX11_as_14 : decode cX11_as 14 = .ok (.iconst 0, 1) := by decide +kernel
theorem dX11_as_15 : decode cX11_as 15 = .ok (.bipush 6, 2) := by decide +kernel
theorem dX11_as_17 : decode cX11_as 17 = .ok (.invokestatic 47, 3) := by decide +kernel
theorem dX11_as_20 : decode cX11_as 20 = .ok (.ifCond .eq 5, 3) := by decide +kernel
theorem dX11_as_23 : decode cX11_as 23 = .ok (.iconst (-1), 1) := by decide +kernel
theorem dX11_as_24 : decode cX11_as 24 = .ok (.ireturn, 1) := by decide +kernel
theorem dX11_as_25 : decode cX11_as 25 = .ok (.aload_n 3, 1) := by decide +kernel
theorem dX11_as_26 : decode cX11_as 26 = .ok (.iload_n 2, 1) := by decide +kernel
theorem dX11_as_27 : decode cX11_as 27 = .ok (.invokevirtual 227, 3) := by decide +kernel
theorem dX11_as_30 : decode cX11_as 30 = .ok (.ifCond .eq 10, 3) := by decide +kernel
theorem dX11_as_33 : decode cX11_as 33 = .ok (.aload_n 3, 1) := by decide +kernel
theorem dX11_as_34 : decode cX11_as 34 = .ok (.getfield 122, 3) := by decide +kernel
theorem dX11_as_37 : decode cX11_as 37 = .ok (.goto 5, 3) := by decide +kernel
theorem dX11_as_40 : decode cX11_as 40 = .ok (.bipush (-6), 2) := by decide +kernel
theorem dX11_as_42 : decode cX11_as 42 = .ok (.ireturn, 1) := by decide +kernel
set_option maxRecDepth 20000 in
theorem ggX11_image_X10_takeAll : GoodIn wsX11_image wsX10_takeAll := goodIn_r _ [9, 10, 11, 12, 13, 14, 15, 16, 17, 18, 19, 20, 8, 21, 22, 23, 24, 25, 26, 27, 28, 29, 30, 31, 32, 33, 34, 35, 36, 37, 44, 45, 46, 47, 48, 49, 50, 51, 52, 53, 54, 55, 56, 57, 58, 59, 60, 61, 62, 63, 64, 65] (by decide +kernel) (by decide +kernel)
set_option maxRecDepth 20000 in
theorem gX11_image_X10_takeAll : GoodIn wsX11_image (wsV RX11 230 RX10 yX10_takeAll wsX10_takeAll) := goodIn_app (goodIn_of _ (by decide +kernel)) ggX11_image_X10_takeAll
theorem dX11_image_0 : decode cX11_image 0 = .ok (.aload_n 0, 1) := by decide +kernel
theorem dX11_image_1 : decode cX11_image 1 = .ok (.getfield 23, 3) := by decide +kernel
theorem dX11_image_4 : decode cX11_image 4 = .ok (.aload_n 0, 1) := by decide +kernel
theorem dX11_image_5 : decode cX11_image 5 = .ok (.getfield 17, 3) := by decide +kernel
theorem dX11_image_8 : decode cX11_image 8 = .ok (.invokevirtual 230, 3) := by decide +kernel
theorem dX11_image_11 : decode cX11_image 11 = .ok (.aload_n 0, 1) := by decide +kernel
theorem dX11_image_12 : decode cX11_image 12 = .ok (.iconst 1, 1) := by decide +kernel
theorem dX11_image_13 : decode cX11_image 13 = .ok (.putfield 43, 3) := by decide +kernel
theorem dX11_image_16 : decode cX11_image 16 = .ok (.aload_n 0, 1) := by decide +kernel
theorem dX11_image_17 : decode cX11_image 17 = .ok (.getfield 17, 3) := by decide +kernel
theorem dX11_image_20 : decode cX11_image 20 = .ok (.getfield 102, 3) := by decide +kernel
theorem dX11_image_23 : decode cX11_image 23 = .ok (.ireturn, 1) := by decide +kernel
set_option maxRecDepth 20000 in
theorem ggX11_undo_X10_takeAll : GoodIn wsX11_undo wsX10_takeAll := goodIn_r _ [9, 10, 11, 12, 13, 14, 15, 16, 17, 18, 19, 20, 8, 21, 22, 23, 24, 25, 26, 27, 28, 29, 30, 31, 32, 33, 34, 35, 36, 37, 44, 45, 46, 47, 48, 49, 50, 51, 52, 53, 54, 55, 56, 57, 58, 59, 60, 61, 62, 63, 64, 65] (by decide +kernel) (by decide +kernel)
set_option maxRecDepth 20000 in
theorem gX11_undo_X10_takeAll : GoodIn wsX11_undo (wsV RX11 230 RX10 yX10_takeAll wsX10_takeAll) := goodIn_app (goodIn_of _ (by decide +kernel)) ggX11_undo_X10_takeAll
theorem dX11_undo_0 : decode cX11_undo 0 = .ok (.aload_n 0, 1) := by decide +kernel
theorem dX11_undo_1 : decode cX11_undo 1 = .ok (.getfield 43, 3) := by decide +kernel
theorem dX11_undo_4 : decode cX11_undo 4 = .ok (.ifCond .ne 6, 3) := by decide +kernel
theorem dX11_undo_7 : decode cX11_undo 7 = .ok (.bipush (-3), 2) := by decide +kernel
theorem dX11_undo_9 : decode cX11_undo 9 = .ok (.ireturn, 1) := by decide +kernel
theorem dX11_undo_10 : decode cX11_undo 10 = .ok (.aload_n 0, 1) := by decide +kernel
theorem dX11_undo_11 : decode cX11_undo 11 = .ok (.getfield 17, 3) := by decide +kernel
theorem dX11_undo_14 : decode cX11_undo 14 = .ok (.aload_n 0, 1) := by decide +kernel
theorem dX11_undo_15 : decode cX11_undo 15 = .ok (.getfield 23, 3) := by decide +kernel
theorem dX11_undo_18 : decode cX11_undo 18 = .ok (.invokevirtual 230, 3) := by decide +kernel
theorem dX11_undo_21 : decode cX11_undo 21 = .ok (.aload_n 0, 1) := by decide +kernel
theorem dX11_undo_22 : decode cX11_undo 22 = .ok (.getfield 17, 3) := by decide +kernel
theorem dX11_undo_25 : decode cX11_undo 25 = .ok (.getfield 102, 3) := by decide +kernel
theorem dX11_undo_28 : decode cX11_undo 28 = .ok (.ireturn, 1) := by decide +kernel
set_option maxRecDepth 20000 in
theorem ggX11_count_Jx4a65c_size_8abf5 : GoodIn wsX11_count wsJx4a65c_size_8abf5 := goodIn_r _ [11, 12, 35, 36, 37] (by decide +kernel) (by decide +kernel)
set_option maxRecDepth 20000 in
theorem gX11_count_Jx4a65c_size_8abf5 : GoodIn wsX11_count (wsV RX11 216 RJx4a65c yJx4a65c_size_8abf5 wsJx4a65c_size_8abf5) := goodIn_app (goodIn_of _ (by decide +kernel)) ggX11_count_Jx4a65c_size_8abf5
theorem dX11_count_0 : decode cX11_count 0 = .ok (.iload_n 1, 1) := by decide +kernel
theorem dX11_count_1 : decode cX11_count 1 = .ok (.tableswitch 75 0 4 #[35, 43, 51, 59, 67], 35) := by decide +kernel
theorem dX11_count_36 : decode cX11_count 36 = .ok (.aload_n 0, 1) := by decide +kernel
theorem dX11_count_37 : decode cX11_count 37 = .ok (.getfield 17, 3) := by decide +kernel
theorem dX11_count_40 : decode cX11_count 40 = .ok (.getfield 102, 3) := by decide +kernel
theorem dX11_count_43 : decode cX11_count 43 = .ok (.ireturn, 1) := by decide +kernel
theorem dX11_count_44 : decode cX11_count 44 = .ok (.aload_n 0, 1) := by decide +kernel
theorem dX11_count_45 : decode cX11_count 45 = .ok (.getfield 17, 3) := by decide +kernel
theorem dX11_count_48 : decode cX11_count 48 = .ok (.getfield 59, 3) := by decide +kernel
theorem dX11_count_51 : decode cX11_count 51 = .ok (.ireturn, 1) := by decide +kernel
theorem dX11_count_52 : decode cX11_count 52 = .ok (.aload_n 0, 1) := by decide +kernel
theorem dX11_count_53 : decode cX11_count 53 = .ok (.getfield 17, 3) := by decide +kernel
theorem dX11_count_56 : decode cX11_count 56 = .ok (.getfield 197, 3) := by decide +kernel
theorem dX11_count_59 : decode cX11_count 59 = .ok (.ireturn, 1) := by decide +kernel
theorem dX11_count_60 : decode cX11_count 60 = .ok (.aload_n 0, 1) := by decide +kernel
theorem dX11_count_61 : decode cX11_count 61 = .ok (.getfield 17, 3) := by decide +kernel
theorem dX11_count_64 : decode cX11_count 64 = .ok (.getfield 51, 3) := by decide +kernel
theorem dX11_count_67 : decode cX11_count 67 = .ok (.ireturn, 1) := by decide +kernel
theorem dX11_count_68 : decode cX11_count 68 = .ok (.aload_n 0, 1) := by decide +kernel
theorem dX11_count_69 : decode cX11_count 69 = .ok (.getfield 39, 3) := by decide +kernel
theorem dX11_count_72 : decode cX11_count 72 = .ok (.invokevirtual 216, 3) := by decide +kernel
theorem dX11_count_75 : decode cX11_count 75 = .ok (.ireturn, 1) := by decide +kernel
theorem dX11_count_76 : decode cX11_count 76 = .ok (.iconst (-1), 1) := by decide +kernel
theorem dX11_count_77 : decode cX11_count 77 = .ok (.ireturn, 1) := by decide +kernel
set_option maxRecDepth 20000 in
theorem ggX11_overBy_X10_take : GoodIn wsX11_overBy wsX10_take := goodIn_r _ [8, 9, 10, 11, 12, 13, 14, 15, 16, 17, 18, 19, 20, 21, 22, 23, 24, 25, 7, 26, 27, 28, 222, 223, 224, 225, 226, 227, 228, 229, 230, 231, 232, 233, 234, 235, 236, 237, 238, 239, 240, 241, 242, 243] (by decide +kernel) (by decide +kernel)
set_option maxRecDepth 20000 in
theorem gX11_overBy_X10_take : GoodIn wsX11_overBy (wsV RX11 155 RX10 yX10_take wsX10_take) := goodIn_app (goodIn_of _ (by decide +kernel)) ggX11_overBy_X10_take
set_option maxRecDepth 20000 in
theorem ggX11_overBy_X10_carry : GoodIn wsX11_overBy wsX10_carry := goodIn_r _ [32, 19, 17, 33, 34, 35, 36, 7, 37, 27, 38, 28, 39, 15, 21, 40, 41, 42, 43, 44, 45, 46, 47, 48, 49, 50, 51, 52, 53, 54, 55, 56, 57, 58, 59, 60, 61, 62, 63, 64, 65, 66, 67, 68, 69, 70, 71, 72, 73, 9, 74, 75, 76, 77, 78, 79, 80, 81, 82, 83, 84, 85, 86, 87, 88, 89, 90, 91, 92, 93, 94, 95, 96, 97, 98, 99, 100, 101, 102, 103, 104, 105, 106, 107, 108, 109, 110, 111, 112, 113, 114, 115, 116, 117, 118, 119, 120, 121, 122, 123, 124, 125, 126, 127, 128, 129, 130, 131, 132, 133, 134, 135, 136, 137, 138, 139, 140, 141, 142, 143, 144, 145, 146, 147, 148, 149, 150, 151, 152, 153, 154, 155, 156, 157, 158, 159, 160, 161, 162, 163, 164, 165, 166, 167, 168, 169, 170, 171, 172, 173, 174, 175, 176, 177, 178, 179, 180, 181, 182, 183, 184, 185, 186, 187, 188, 189, 190, 191, 192, 193, 194, 195, 196, 197, 198, 199, 200, 201, 202, 203, 204, 205, 18, 206, 207, 20, 208, 209, 210, 211, 212, 213, 214, 215, 23, 24, 25, 26, 222, 223, 224, 225, 226, 227, 228, 229, 230, 231, 232, 233, 234, 235, 236, 237, 238, 239, 240, 241, 242, 243, 244, 245, 246, 247, 248, 249, 250, 251, 252, 253, 254, 255, 256, 257, 258, 259, 260, 261, 262, 263, 264, 265, 266, 267, 268, 269, 270, 271, 272, 273, 274, 275, 276, 277, 278, 279] (by decide +kernel) (by decide +kernel)
set_option maxRecDepth 20000 in
theorem gX11_overBy_X10_carry : GoodIn wsX11_overBy (wsV RX11 233 RX10 yX10_carry wsX10_carry) := goodIn_app (goodIn_of _ (by decide +kernel)) ggX11_overBy_X10_carry
theorem dX11_overBy_0 : decode cX11_overBy 0 = .ok (.aload_n 0, 1) := by decide +kernel
theorem dX11_overBy_1 : decode cX11_overBy 1 = .ok (.getfield 26, 3) := by decide +kernel
theorem dX11_overBy_4 : decode cX11_overBy 4 = .ok (.aload_n 0, 1) := by decide +kernel
theorem dX11_overBy_5 : decode cX11_overBy 5 = .ok (.getfield 17, 3) := by decide +kernel
theorem dX11_overBy_8 : decode cX11_overBy 8 = .ok (.invokevirtual 155, 3) := by decide +kernel
theorem dX11_overBy_11 : decode cX11_overBy 11 = .ok (.aload_n 0, 1) := by decide +kernel
theorem dX11_overBy_12 : decode cX11_overBy 12 = .ok (.getfield 26, 3) := by decide +kernel
theorem dX11_overBy_15 : decode cX11_overBy 15 = .ok (.aload_n 1, 1) := by decide +kernel
theorem dX11_overBy_16 : decode cX11_overBy 16 = .ok (.iload_n 2, 1) := by decide +kernel
theorem dX11_overBy_17 : decode cX11_overBy 17 = .ok (.iload_n 3, 1) := by decide +kernel
theorem dX11_overBy_18 : decode cX11_overBy 18 = .ok (.invokevirtual 233, 3) := by decide +kernel
theorem dX11_overBy_21 : decode cX11_overBy 21 = .ok (.aload_n 0, 1) := by decide +kernel
theorem dX11_overBy_22 : decode cX11_overBy 22 = .ok (.getfield 26, 3) := by decide +kernel
theorem dX11_overBy_25 : decode cX11_overBy 25 = .ok (.getfield 83, 3) := by decide +kernel
theorem dX11_overBy_28 : decode cX11_overBy 28 = .ok (.aload_n 0, 1) := by decide +kernel
theorem dX11_overBy_29 : decode cX11_overBy 29 = .ok (.getfield 17, 3) := by decide +kernel
theorem dX11_overBy_32 : decode cX11_overBy 32 = .ok (.getfield 83, 3) := by decide +kernel
theorem dX11_overBy_35 : decode cX11_overBy 35 = .ok (.isub, 1) := by decide +kernel
theorem dX11_overBy_36 : decode cX11_overBy 36 = .ok (.ireturn, 1) := by decide +kernel
set_option maxRecDepth 20000 in
theorem ggX11_overOfAllBut_X10_take : GoodIn wsX11_overOfAllBut wsX10_take := goodIn_r _ [9, 10, 11, 12, 13, 14, 15, 16, 17, 18, 19, 20, 21, 22, 23, 24, 25, 26, 8, 27, 28, 29, 227, 228, 229, 230, 231, 232, 233, 234, 235, 236, 237, 238, 239, 240, 241, 242, 243, 244, 245, 246, 247, 248] (by decide +kernel) (by decide +kernel)
set_option maxRecDepth 20000 in
theorem gX11_overOfAllBut_X10_take : GoodIn wsX11_overOfAllBut (wsV RX11 155 RX10 yX10_take wsX10_take) := goodIn_app (goodIn_of _ (by decide +kernel)) ggX11_overOfAllBut_X10_take
set_option maxRecDepth 20000 in
theorem ggX11_overOfAllBut_X10_find : GoodIn wsX11_overOfAllBut wsX10_find := goodIn_r _ [33, 17, 15, 227, 228, 229, 230, 231, 232, 233, 234, 235, 236, 237, 238, 239, 240, 241, 242] (by decide +kernel) (by decide +kernel)
set_option maxRecDepth 20000 in
theorem gX11_overOfAllBut_X10_find : GoodIn wsX11_overOfAllBut (wsV RX11 115 RX10 yX10_find wsX10_find) := goodIn_app (goodIn_of _ (by decide +kernel)) ggX11_overOfAllBut_X10_find
set_option maxRecDepth 20000 in
theorem ggX11_overOfAllBut_X10_carry : GoodIn wsX11_overOfAllBut wsX10_carry := goodIn_r _ [37, 20, 18, 38, 39, 40, 41, 8, 42, 28, 43, 29, 44, 16, 22, 45, 46, 47, 48, 49, 50, 51, 52, 53, 54, 55, 56, 57, 58, 59, 60, 61, 62, 63, 64, 65, 66, 67, 68, 69, 70, 71, 72, 73, 74, 75, 76, 77, 78, 10, 79, 80, 81, 82, 83, 84, 85, 86, 87, 88, 89, 90, 91, 92, 93, 94, 95, 96, 97, 98, 99, 100, 101, 102, 103, 104, 105, 106, 107, 108, 109, 110, 111, 112, 113, 114, 115, 116, 117, 118, 119, 120, 121, 122, 123, 124, 125, 126, 127, 128, 129, 130, 131, 132, 133, 134, 135, 136, 137, 138, 139, 140, 141, 142, 143, 144, 145, 146, 147, 148, 149, 150, 151, 152, 153, 154, 155, 156, 157, 158, 159, 160, 161, 162, 163, 164, 165, 166, 167, 168, 169, 170, 171, 172, 173, 174, 175, 176, 177, 178, 179, 180, 181, 182, 183, 184, 185, 186, 187, 188, 189, 190, 191, 192, 193, 194, 195, 196, 197, 198, 199, 200, 201, 202, 203, 204, 205, 206, 207, 208, 209, 210, 19, 211, 212, 21, 213, 214, 215, 216, 217, 218, 219, 220, 24, 25, 26, 27, 227, 228, 229, 230, 231, 232, 233, 234, 235, 236, 237, 238, 239, 240, 241, 242, 243, 244, 245, 246, 247, 248, 249, 250, 251, 252, 253, 254, 255, 256, 257, 258, 259, 260, 261, 262, 263, 264, 265, 266, 267, 268, 269, 270, 271, 272, 273, 274, 275, 276, 277, 278, 279, 280, 281, 282, 283, 284] (by decide +kernel) (by decide +kernel)
set_option maxRecDepth 20000 in
theorem gX11_overOfAllBut_X10_carry : GoodIn wsX11_overOfAllBut (wsV RX11 233 RX10 yX10_carry wsX10_carry) := goodIn_app (goodIn_of _ (by decide +kernel)) ggX11_overOfAllBut_X10_carry
theorem dX11_overOfAllBut_0 : decode cX11_overOfAllBut 0 = .ok (.aload_n 0, 1) := by decide +kernel
theorem dX11_overOfAllBut_1 : decode cX11_overOfAllBut 1 = .ok (.getfield 26, 3) := by decide +kernel
theorem dX11_overOfAllBut_4 : decode cX11_overOfAllBut 4 = .ok (.aload_n 0, 1) := by decide +kernel
theorem dX11_overOfAllBut_5 : decode cX11_overOfAllBut 5 = .ok (.getfield 17, 3) := by decide +kernel
theorem dX11_overOfAllBut_8 : decode cX11_overOfAllBut 8 = .ok (.invokevirtual 155, 3) := by decide +kernel
theorem dX11_overOfAllBut_11 : decode cX11_overOfAllBut 11 = .ok (.iconst 0, 1) := by decide +kernel
theorem dX11_overOfAllBut_12 : decode cX11_overOfAllBut 12 = .ok (.istore_n 3, 1) := by decide +kernel
theorem dX11_overOfAllBut_13 : decode cX11_overOfAllBut 13 = .ok (.iload_n 3, 1) := by decide +kernel
theorem dX11_overOfAllBut_14 : decode cX11_overOfAllBut 14 = .ok (.aload_n 0, 1) := by decide +kernel
theorem dX11_overOfAllBut_15 : decode cX11_overOfAllBut 15 = .ok (.getfield 17, 3) := by decide +kernel
theorem dX11_overOfAllBut_18 : decode cX11_overOfAllBut 18 = .ok (.getfield 102, 3) := by decide +kernel
theorem dX11_overOfAllBut_21 : decode cX11_overOfAllBut 21 = .ok (.if_icmp .ge 41, 3) := by decide +kernel
theorem dX11_overOfAllBut_24 : decode cX11_overOfAllBut 24 = .ok (.aload_n 0, 1) := by decide +kernel
theorem dX11_overOfAllBut_25 : decode cX11_overOfAllBut 25 = .ok (.getfield 17, 3) := by decide +kernel
theorem dX11_overOfAllBut_28 : decode cX11_overOfAllBut 28 = .ok (.iload_n 3, 1) := by decide +kernel
theorem dX11_overOfAllBut_29 : decode cX11_overOfAllBut 29 = .ok (.invokevirtual 115, 3) := by decide +kernel
theorem dX11_overOfAllBut_32 : decode cX11_overOfAllBut 32 = .ok (.astore 4, 2) := by decide +kernel
theorem dX11_overOfAllBut_34 : decode cX11_overOfAllBut 34 = .ok (.aload 4, 2) := by decide +kernel
theorem dX11_overOfAllBut_36 : decode cX11_overOfAllBut 36 = .ok (.ifnull 20, 3) := by decide +kernel
theorem dX11_overOfAllBut_39 : decode cX11_overOfAllBut 39 = .ok (.iload_n 3, 1) := by decide +kernel
theorem dX11_overOfAllBut_40 : decode cX11_overOfAllBut 40 = .ok (.iload_n 1, 1) := by decide +kernel
theorem dX11_overOfAllBut_41 : decode cX11_overOfAllBut 41 = .ok (.if_icmp .eq 15, 3) := by decide +kernel
theorem dX11_overOfAllBut_44 : decode cX11_overOfAllBut 44 = .ok (.aload_n 0, 1) := by decide +kernel
theorem dX11_overOfAllBut_45 : decode cX11_overOfAllBut 45 = .ok (.getfield 26, 3) := by decide +kernel
theorem dX11_overOfAllBut_48 : decode cX11_overOfAllBut 48 = .ok (.aload 4, 2) := by decide +kernel
theorem dX11_overOfAllBut_50 : decode cX11_overOfAllBut 50 = .ok (.bipush 10, 2) := by decide +kernel
theorem dX11_overOfAllBut_52 : decode cX11_overOfAllBut 52 = .ok (.iload_n 2, 1) := by decide +kernel
theorem dX11_overOfAllBut_53 : decode cX11_overOfAllBut 53 = .ok (.invokevirtual 233, 3) := by decide +kernel
theorem dX11_overOfAllBut_56 : decode cX11_overOfAllBut 56 = .ok (.iinc 3 1, 3) := by decide +kernel
theorem dX11_overOfAllBut_59 : decode cX11_overOfAllBut 59 = .ok (.goto (-46), 3) := by decide +kernel
theorem dX11_overOfAllBut_62 : decode cX11_overOfAllBut 62 = .ok (.aload_n 0, 1) := by decide +kernel
theorem dX11_overOfAllBut_63 : decode cX11_overOfAllBut 63 = .ok (.getfield 26, 3) := by decide +kernel
theorem dX11_overOfAllBut_66 : decode cX11_overOfAllBut 66 = .ok (.getfield 83, 3) := by decide +kernel
theorem dX11_overOfAllBut_69 : decode cX11_overOfAllBut 69 = .ok (.aload_n 0, 1) := by decide +kernel
theorem dX11_overOfAllBut_70 : decode cX11_overOfAllBut 70 = .ok (.getfield 17, 3) := by decide +kernel
theorem dX11_overOfAllBut_73 : decode cX11_overOfAllBut 73 = .ok (.getfield 83, 3) := by decide +kernel
theorem dX11_overOfAllBut_76 : decode cX11_overOfAllBut 76 = .ok (.isub, 1) := by decide +kernel
theorem dX11_overOfAllBut_77 : decode cX11_overOfAllBut 77 = .ok (.ireturn, 1) := by decide +kernel
theorem dX11_outside_0 : decode cX11_outside 0 = .ok (.iload_n 0, 1) := by decide +kernel
theorem dX11_outside_1 : decode cX11_outside 1 = .ok (.iload_n 1, 1) := by decide +kernel
theorem dX11_outside_2 : decode cX11_outside 2 = .ok (.if_icmp .lt 8, 3) := by decide +kernel
theorem dX11_outside_5 : decode cX11_outside 5 = .ok (.iload_n 0, 1) := by decide +kernel
theorem dX11_outside_6 : decode cX11_outside 6 = .ok (.iload_n 2, 1) := by decide +kernel
theorem dX11_outside_7 : decode cX11_outside 7 = .ok (.if_icmp .le 7, 3) := by decide +kernel
theorem dX11_outside_10 : decode cX11_outside 10 = .ok (.iconst 1, 1) := by decide +kernel
theorem dX11_outside_11 : decode cX11_outside 11 = .ok (.goto 4, 3) := by decide +kernel
theorem dX11_outside_14 : decode cX11_outside 14 = .ok (.iconst 0, 1) := by decide +kernel
theorem dX11_outside_15 : decode cX11_outside 15 = .ok (.ireturn, 1) := by decide +kernel
set_option maxRecDepth 20000 in
theorem ggX11_badLoad_X11_outside : GoodIn wsX11_badLoad wsX11_outside := goodIn_r _ [4] (by decide +kernel) (by decide +kernel)
set_option maxRecDepth 20000 in
theorem gX11_badLoad_X11_outside : GoodIn wsX11_badLoad (va_wsS RX11 47 yX11_outside wsX11_outside) := goodIn_app (goodIn_of _ (by decide +kernel)) ggX11_badLoad_X11_outside
theorem dX11_badLoad_0 : decode cX11_badLoad 0 = .ok (.iload_n 0, 1) := by decide +kernel
theorem dX11_badLoad_1 : decode cX11_badLoad 1 = .ok (.iconst 1, 1) := by decide +kernel
theorem dX11_badLoad_2 : decode cX11_badLoad 2 = .ok (.bipush 20, 2) := by decide +kernel
theorem dX11_badLoad_4 : decode cX11_badLoad 4 = .ok (.invokestatic 47, 3) := by decide +kernel
theorem dX11_badLoad_7 : decode cX11_badLoad 7 = .ok (.ireturn, 1) := by decide +kernel
theorem dX11_commonDivisor_0 : decode cX11_commonDivisor 0 = .ok (.iload_n 0, 1) := by decide +kernel
theorem dX11_commonDivisor_1 : decode cX11_commonDivisor 1 = .ok (.istore_n 2, 1) := by decide +kernel
theorem dX11_commonDivisor_2 : decode cX11_commonDivisor 2 = .ok (.iload_n 2, 1) := by decide +kernel
theorem dX11_commonDivisor_3 : decode cX11_commonDivisor 3 = .ok (.iconst 1, 1) := by decide +kernel
theorem dX11_commonDivisor_4 : decode cX11_commonDivisor 4 = .ok (.if_icmp .le 23, 3) := by decide +kernel
theorem dX11_commonDivisor_7 : decode cX11_commonDivisor 7 = .ok (.iload_n 0, 1) := by decide +kernel
theorem dX11_commonDivisor_8 : decode cX11_commonDivisor 8 = .ok (.iload_n 2, 1) := by decide +kernel
theorem dX11_commonDivisor_9 : decode cX11_commonDivisor 9 = .ok (.irem, 1) := by decide +kernel
theorem dX11_commonDivisor_10 : decode cX11_commonDivisor 10 = .ok (.ifCond .ne 11, 3) := by decide +kernel
theorem dX11_commonDivisor_13 : decode cX11_commonDivisor 13 = .ok (.iload_n 1, 1) := by decide +kernel
theorem dX11_commonDivisor_14 : decode cX11_commonDivisor 14 = .ok (.iload_n 2, 1) := by decide +kernel
theorem dX11_commonDivisor_15 : decode cX11_commonDivisor 15 = .ok (.irem, 1) := by decide +kernel
theorem dX11_commonDivisor_16 : decode cX11_commonDivisor 16 = .ok (.ifCond .ne 5, 3) := by decide +kernel
theorem dX11_commonDivisor_19 : decode cX11_commonDivisor 19 = .ok (.iload_n 2, 1) := by decide +kernel
theorem dX11_commonDivisor_20 : decode cX11_commonDivisor 20 = .ok (.ireturn, 1) := by decide +kernel
theorem dX11_commonDivisor_21 : decode cX11_commonDivisor 21 = .ok (.iinc 2 (-1), 3) := by decide +kernel
theorem dX11_commonDivisor_24 : decode cX11_commonDivisor 24 = .ok (.goto (-22), 3) := by decide +kernel
theorem dX11_commonDivisor_27 : decode cX11_commonDivisor 27 = .ok (.iconst 1, 1) := by decide +kernel
theorem dX11_commonDivisor_28 : decode cX11_commonDivisor 28 = .ok (.ireturn, 1) := by decide +kernel
