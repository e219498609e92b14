theorem dX12_site_108 : decode cX12_site 108 = .ok (.getfield 63, 3) := by decide +kernel
theorem dX12_site_111 : decode cX12_site 111 = .ok (.ifCond .ne 38, 3) := by decide +kernel
theorem dX12_site_114 : decode cX12_site 114 = .ok (.iload_n 1, 1) := by decide +kernel
theorem dX12_site_115 : decode cX12_site 115 = .ok (.bipush 10, 2) := by decide +kernel
theorem dX12_site_117 : decode cX12_site 117 = .ok (.if_icmp .ge 32, 3) := by decide +kernel
theorem dX12_site_120 : decode cX12_site 120 = .ok (.aload_n 0, 1) := by decide +kernel
theorem dX12_site_121 : decode cX12_site 121 = .ok (.invokevirtual 67, 3) := by decide +kernel
theorem dX12_site_124 : decode cX12_site 124 = .ok (.bipush 59, 2) := by decide +kernel
theorem dX12_site_126 : decode cX12_site 126 = .ok (.if_icmp .ne 23, 3) := by decide +kernel
theorem dX12_site_129 : decode cX12_site 129 = .ok (.aload_n 0, 1) := by decide +kernel
theorem dX12_site_130 : decode cX12_site 130 = .ok (.dup, 1) := by decide +kernel
theorem dX12_site_131 : decode cX12_site 131 = .ok (.getfield 57, 3) := by decide +kernel
theorem dX12_site_134 : decode cX12_site 134 = .ok (.iconst 1, 1) := by decide +kernel
theorem dX12_site_135 : decode cX12_site 135 = .ok (.iadd, 1) := by decide +kernel
theorem dX12_site_136 : decode cX12_site 136 = .ok (.putfield 57, 3) := by decide +kernel
theorem dX12_site_139 : decode cX12_site 139 = .ok (.aload_n 0, 1) := by decide +kernel
theorem dX12_site_140 : decode cX12_site 140 = .ok (.invokevirtual 137, 3) := by decide +kernel
theorem dX12_site_143 : decode cX12_site 143 = .ok (.iinc 1 1, 3) := by decide +kernel
theorem dX12_site_146 : decode cX12_site 146 = .ok (.goto (-39), 3) := by decide +kernel
theorem dX12_site_149 : decode cX12_site 149 = .ok (.aload_n 0, 1) := by decide +kernel
theorem dX12_site_150 : decode cX12_site 150 = .ok (.getfield 63, 3) := by decide +kernel
theorem dX12_site_153 : decode cX12_site 153 = .ok (.ifCond .ne 14, 3) := by decide +kernel
theorem dX12_site_156 : decode cX12_site 156 = .ok (.aload_n 0, 1) := by decide +kernel
theorem dX12_site_157 : decode cX12_site 157 = .ok (.getfield 57, 3) := by decide +kernel
theorem dX12_site_160 : decode cX12_site 160 = .ok (.aload_n 0, 1) := by decide +kernel
theorem dX12_site_161 : decode cX12_site 161 = .ok (.getfield 60, 3) := by decide +kernel
theorem dX12_site_164 : decode cX12_site 164 = .ok (.if_icmp .eq 11, 3) := by decide +kernel
theorem dX12_site_167 : decode cX12_site 167 = .ok (.bipush (-10), 2) := by decide +kernel
theorem dX12_site_169 : decode cX12_site 169 = .ok (.aload_n 0, 1) := by decide +kernel
theorem dX12_site_170 : decode cX12_site 170 = .ok (.getfield 57, 3) := by decide +kernel
theorem dX12_site_173 : decode cX12_site 173 = .ok (.isub, 1) := by decide +kernel
theorem dX12_site_174 : decode cX12_site 174 = .ok (.ireturn, 1) := by decide +kernel
theorem dX12_site_175 : decode cX12_site 175 = .ok (.aload_n 0, 1) := by decide +kernel
theorem dX12_site_176 : decode cX12_site 176 = .ok (.dup, 1) := by decide +kernel
theorem dX12_site_177 : decode cX12_site 177 = .ok (.getfield 37, 3) := by decide +kernel
theorem dX12_site_180 : decode cX12_site 180 = .ok (.iconst 1, 1) := by decide +kernel
theorem dX12_site_181 : decode cX12_site 181 = .ok (.iadd, 1) := by decide +kernel
theorem dX12_site_182 : decode cX12_site 182 = .ok (.putfield 37, 3) := by decide +kernel
theorem dX12_site_185 : decode cX12_site 185 = .ok (.aload_n 0, 1) := by decide +kernel
theorem dX12_site_186 : decode cX12_site 186 = .ok (.getfield 9, 3) := by decide +kernel
theorem dX12_site_189 : decode cX12_site 189 = .ok (.bipush 39, 2) := by decide +kernel
theorem dX12_site_191 : decode cX12_site 191 = .ok (.dup2, 1) := by decide +kernel
theorem dX12_site_192 : decode cX12_site 192 = .ok (.iaload, 1) := by decide +kernel
theorem dX12_site_193 : decode cX12_site 193 = .ok (.iconst 1, 1) := by decide +kernel
theorem dX12_site_194 : decode cX12_site 194 = .ok (.iadd, 1) := by decide +kernel
theorem dX12_site_195 : decode cX12_site 195 = .ok (.iastore, 1) := by decide +kernel
theorem dX12_site_196 : decode cX12_site 196 = .ok (.aload_n 0, 1) := by decide +kernel
theorem dX12_site_197 : decode cX12_site 197 = .ok (.getfield 9, 3) := by decide +kernel
theorem dX12_site_200 : decode cX12_site 200 = .ok (.bipush 42, 2) := by decide +kernel
theorem dX12_site_202 : decode cX12_site 202 = .ok (.aload_n 0, 1) := by decide +kernel
theorem dX12_site_203 : decode cX12_site 203 = .ok (.getfield 84, 3) := by decide +kernel
theorem dX12_site_206 : decode cX12_site 206 = .ok (.iastore, 1) := by decide +kernel
theorem dX12_site_207 : decode cX12_site 207 = .ok (.aload_n 0, 1) := by decide +kernel
theorem dX12_site_208 : decode cX12_site 208 = .ok (.getfield 84, 3) := by decide +kernel
theorem dX12_site_211 : decode cX12_site 211 = .ok (.ireturn, 1) := by decide +kernel
theorem dX12_tellsOf_0 : decode cX12_tellsOf 0 = .ok (.aload_n 0, 1) := by decide +kernel
theorem dX12_tellsOf_1 : decode cX12_tellsOf 1 = .ok (.getfield 9, 3) := by decide +kernel
theorem dX12_tellsOf_4 : decode cX12_tellsOf 4 = .ok (.bipush 42, 2) := by decide +kernel
theorem dX12_tellsOf_6 : decode cX12_tellsOf 6 = .ok (.iaload, 1) := by decide +kernel
theorem dX12_tellsOf_7 : decode cX12_tellsOf 7 = .ok (.iconst (-1), 1) := by decide +kernel
theorem dX12_tellsOf_8 : decode cX12_tellsOf 8 = .ok (.if_icmp .ne 7, 3) := by decide +kernel
theorem dX12_tellsOf_11 : decode cX12_tellsOf 11 = .ok (.iload_n 2, 1) := by decide +kernel
theorem dX12_tellsOf_12 : decode cX12_tellsOf 12 = .ok (.goto 17, 3) := by decide +kernel
theorem dX12_tellsOf_15 : decode cX12_tellsOf 15 = .ok (.aload_n 0, 1) := by decide +kernel
theorem dX12_tellsOf_16 : decode cX12_tellsOf 16 = .ok (.getfield 9, 3) := by decide +kernel
theorem dX12_tellsOf_19 : decode cX12_tellsOf 19 = .ok (.iload_n 1, 1) := by decide +kernel
theorem dX12_tellsOf_20 : decode cX12_tellsOf 20 = .ok (.aload_n 0, 1) := by decide +kernel
theorem dX12_tellsOf_21 : decode cX12_tellsOf 21 = .ok (.getfield 9, 3) := by decide +kernel
theorem dX12_tellsOf_24 : decode cX12_tellsOf 24 = .ok (.bipush 42, 2) := by decide +kernel
theorem dX12_tellsOf_26 : decode cX12_tellsOf 26 = .ok (.iaload, 1) := by decide +kernel
theorem dX12_tellsOf_27 : decode cX12_tellsOf 27 = .ok (.iadd, 1) := by decide +kernel
theorem dX12_tellsOf_28 : decode cX12_tellsOf 28 = .ok (.iaload, 1) := by decide +kernel
theorem dX12_tellsOf_29 : decode cX12_tellsOf 29 = .ok (.ireturn, 1) := by decide +kernel
set_option maxRecDepth 20000 in
theorem ggX12_yard_X12_isYard : GoodIn wsX12_yard wsX12_isYard := goodIn_r _ [6, 7, 8, 5, 9] (by decide +kernel) (by decide +kernel)
set_option maxRecDepth 20000 in
theorem gX12_yard_X12_isYard : GoodIn wsX12_yard (va_wsS RX12 140 yX12_isYard wsX12_isYard) := goodIn_app (goodIn_of _ (by decide +kernel)) ggX12_yard_X12_isYard
set_option maxRecDepth 20000 in
theorem ggX12_yard_X12_in : GoodIn wsX12_yard wsX12_in := goodIn_r _ [9] (by decide +kernel) (by decide +kernel)
set_option maxRecDepth 20000 in
theorem gX12_yard_X12_in : GoodIn wsX12_yard (va_wsS RX12 53 yX12_in wsX12_in) := goodIn_app (goodIn_of _ (by decide +kernel)) ggX12_yard_X12_in
theorem dX12_yard_0 : decode cX12_yard 0 = .ok (.iload_n 1, 1) := by decide +kernel
theorem dX12_yard_1 : decode cX12_yard 1 = .ok (.invokestatic 140, 3) := by decide +kernel
theorem dX12_yard_4 : decode cX12_yard 4 = .ok (.ifCond .eq 12, 3) := by decide +kernel
theorem dX12_yard_7 : decode cX12_yard 7 = .ok (.iload_n 2, 1) := by decide +kernel
theorem dX12_yard_8 : decode cX12_yard 8 = .ok (.iconst 0, 1) := by decide +kernel
theorem dX12_yard_9 : decode cX12_yard 9 = .ok (.iconst 2, 1) := by decide +kernel
theorem dX12_yard_10 : decode cX12_yard 10 = .ok (.invokestatic 53, 3) := by decide +kernel
theorem dX12_yard_13 : decode cX12_yard 13 = .ok (.ifCond .ne 5, 3) := by decide +kernel
theorem dX12_yard_16 : decode cX12_yard 16 = .ok (.iconst (-1), 1) := by decide +kernel
theorem dX12_yard_17 : decode cX12_yard 17 = .ok (.ireturn, 1) := by decide +kernel
theorem dX12_yard_18 : decode cX12_yard 18 = .ok (.iload_n 3, 1) := by decide +kernel
theorem dX12_yard_19 : decode cX12_yard 19 = .ok (.iconst 0, 1) := by decide +kernel
theorem dX12_yard_20 : decode cX12_yard 20 = .ok (.bipush 9, 2) := by decide +kernel
theorem dX12_yard_22 : decode cX12_yard 22 = .ok (.invokestatic 53, 3) := by decide +kernel
theorem dX12_yard_25 : decode cX12_yard 25 = .ok (.ifCond .ne 6, 3) := by decide +kernel
theorem dX12_yard_28 : decode cX12_yard 28 = .ok (.bipush (-2), 2) := by decide +kernel
theorem dX12_yard_30 : decode cX12_yard 30 = .ok (.ireturn, 1) := by decide +kernel
theorem dX12_yard_31 : decode cX12_yard 31 = .ok (.aload_n 0, 1) := by decide +kernel
theorem dX12_yard_32 : decode cX12_yard 32 = .ok (.dup, 1) := by decide +kernel
theorem dX12_yard_33 : decode cX12_yard 33 = .ok (.getfield 37, 3) := by decide +kernel
theorem dX12_yard_36 : decode cX12_yard 36 = .ok (.iconst 1, 1) := by decide +kernel
theorem dX12_yard_37 : decode cX12_yard 37 = .ok (.iadd, 1) := by decide +kernel
theorem dX12_yard_38 : decode cX12_yard 38 = .ok (.putfield 37, 3) := by decide +kernel
theorem dX12_yard_41 : decode cX12_yard 41 = .ok (.bipush 8, 2) := by decide +kernel
theorem dX12_yard_43 : decode cX12_yard 43 = .ok (.bipush 10, 2) := by decide +kernel
theorem dX12_yard_45 : decode cX12_yard 45 = .ok (.iload_n 2, 1) := by decide +kernel
theorem dX12_yard_46 : decode cX12_yard 46 = .ok (.imul, 1) := by decide +kernel
theorem dX12_yard_47 : decode cX12_yard 47 = .ok (.iadd, 1) := by decide +kernel
theorem dX12_yard_48 : decode cX12_yard 48 = .ok (.iload_n 1, 1) := by decide +kernel
theorem dX12_yard_49 : decode cX12_yard 49 = .ok (.iadd, 1) := by decide +kernel
theorem dX12_yard_50 : decode cX12_yard 50 = .ok (.istore 4, 2) := by decide +kernel
theorem dX12_yard_52 : decode cX12_yard 52 = .ok (.aload_n 0, 1) := by decide +kernel
theorem dX12_yard_53 : decode cX12_yard 53 = .ok (.getfield 9, 3) := by decide +kernel
theorem dX12_yard_56 : decode cX12_yard 56 = .ok (.iload 4, 2) := by decide +kernel
theorem dX12_yard_58 : decode cX12_yard 58 = .ok (.iaload, 1) := by decide +kernel
theorem dX12_yard_59 : decode cX12_yard 59 = .ok (.istore 5, 2) := by decide +kernel
theorem dX12_yard_61 : decode cX12_yard 61 = .ok (.aload_n 0, 1) := by decide +kernel
theorem dX12_yard_62 : decode cX12_yard 62 = .ok (.getfield 9, 3) := by decide +kernel
theorem dX12_yard_65 : decode cX12_yard 65 = .ok (.iload 4, 2) := by decide +kernel
theorem dX12_yard_67 : decode cX12_yard 67 = .ok (.iload_n 3, 1) := by decide +kernel
theorem dX12_yard_68 : decode cX12_yard 68 = .ok (.iastore, 1) := by decide +kernel
theorem dX12_yard_69 : decode cX12_yard 69 = .ok (.iload 5, 2) := by decide +kernel
theorem dX12_yard_71 : decode cX12_yard 71 = .ok (.ireturn, 1) := by decide +kernel
set_option maxRecDepth 20000 in
theorem ggX12_at_X12_isYard : GoodIn wsX12_at wsX12_isYard := goodIn_r _ [5, 6, 7, 4, 8] (by decide +kernel) (by decide +kernel)
set_option maxRecDepth 20000 in
theorem gX12_at_X12_isYard : GoodIn wsX12_at (va_wsS RX12 140 yX12_isYard wsX12_isYard) := goodIn_app (goodIn_of _ (by decide +kernel)) ggX12_at_X12_isYard
set_option maxRecDepth 20000 in
theorem ggX12_at_X12_in : GoodIn wsX12_at wsX12_in := goodIn_r _ [8] (by decide +kernel) (by decide +kernel)
set_option maxRecDepth 20000 in
theorem gX12_at_X12_in : GoodIn wsX12_at (va_wsS RX12 53 yX12_in wsX12_in) := goodIn_app (goodIn_of _ (by decide +kernel)) ggX12_at_X12_in
theorem dX12_at_0 : decode cX12_at 0 = .ok (.iload_n 1, 1) := by decide +kernel
theorem dX12_at_1 : decode cX12_at 1 = .ok (.invokestatic 140, 3) := by decide +kernel
theorem dX12_at_4 : decode cX12_at 4 = .ok (.ifCond .eq 29, 3) := by decide +kernel
theorem dX12_at_7 : decode cX12_at 7 = .ok (.iload_n 2, 1) := by decide +kernel
theorem dX12_at_8 : decode cX12_at 8 = .ok (.iconst 0, 1) := by decide +kernel
theorem dX12_at_9 : decode cX12_at 9 = .ok (.iconst 2, 1) := by decide +kernel
theorem dX12_at_10 : decode cX12_at 10 = .ok (.invokestatic 53, 3) := by decide +kernel
theorem dX12_at_13 : decode cX12_at 13 = .ok (.ifCond .eq 20, 3) := by decide +kernel
theorem dX12_at_16 : decode cX12_at 16 = .ok (.aload_n 0, 1) := by decide +kernel
theorem dX12_at_17 : decode cX12_at 17 = .ok (.getfield 9, 3) := by decide +kernel
theorem dX12_at_20 : decode cX12_at 20 = .ok (.bipush 8, 2) := by decide +kernel
theorem dX12_at_22 : decode cX12_at 22 = .ok (.bipush 10, 2) := by decide +kernel
theorem dX12_at_24 : decode cX12_at 24 = .ok (.iload_n 2, 1) := by decide +kernel
theorem dX12_at_25 : decode cX12_at 25 = .ok (.imul, 1) := by decide +kernel
theorem dX12_at_26 : decode cX12_at 26 = .ok (.iadd, 1) := by decide +kernel
theorem dX12_at_27 : decode cX12_at 27 = .ok (.iload_n 1, 1) := by decide +kernel
theorem dX12_at_28 : decode cX12_at 28 = .ok (.iadd, 1) := by decide +kernel
theorem dX12_at_29 : decode cX12_at 29 = .ok (.iaload, 1) := by decide +kernel
theorem dX12_at_30 : decode cX12_at 30 = .ok (.goto 4, 3) := by decide +kernel
theorem dX12_at_33 : decode cX12_at 33 = .ok (.iconst (-1), 1) := by decide +kernel
theorem dX12_at_34 : decode cX12_at 34 = .ok (.ireturn, 1) := by decide +kernel
set_option maxRecDepth 20000 in
theorem ggX12_earth_X12_in : GoodIn wsX12_earth wsX12_in := goodIn_r _ [5] (by decide +kernel) (by decide +kernel)
set_option maxRecDepth 20000 in
theorem gX12_earth_X12_in : GoodIn wsX12_earth (va_wsS RX12 53 yX12_in wsX12_in) := goodIn_app (goodIn_of _ (by decide +kernel)) ggX12_earth_X12_in
theorem dX12_earth_0 : decode cX12_earth 0 = .ok (.iload_n 1, 1) := by decide +kernel
theorem dX12_earth_1 : decode cX12_earth 1 = .ok (.iconst 0, 1) := by decide +kernel
theorem dX12_earth_2 : decode cX12_earth 2 = .ok (.sipush 999, 3) := by decide +kernel
theorem dX12_earth_5 : decode cX12_earth 5 = .ok (.invokestatic 53, 3) := by decide +kernel
theorem dX12_earth_8 : decode cX12_earth 8 = .ok (.ifCond .ne 6, 3) := by decide +kernel
theorem dX12_earth_11 : decode cX12_earth 11 = .ok (.bipush (-2), 2) := by decide +kernel
theorem dX12_earth_13 : decode cX12_earth 13 = .ok (.ireturn, 1) := by decide +kernel
theorem dX12_earth_14 : decode cX12_earth 14 = .ok (.aload_n 0, 1) := by decide +kernel
theorem dX12_earth_15 : decode cX12_earth 15 = .ok (.getfield 9, 3) := by decide +kernel
theorem dX12_earth_18 : decode cX12_earth 18 = .ok (.iconst 0, 1) := by decide +kernel
theorem dX12_earth_19 : decode cX12_earth 19 = .ok (.iaload, 1) := by decide +kernel
theorem dX12_earth_20 : decode cX12_earth 20 = .ok (.istore_n 2, 1) := by decide +kernel
theorem dX12_earth_21 : decode cX12_earth 21 = .ok (.aload_n 0, 1) := by decide +kernel
theorem dX12_earth_22 : decode cX12_earth 22 = .ok (.getfield 9, 3) := by decide +kernel
theorem dX12_earth_25 : decode cX12_earth 25 = .ok (.iconst 0, 1) := by decide +kernel
theorem dX12_earth_26 : decode cX12_earth 26 = .ok (.iload_n 1, 1) := by decide +kernel
theorem dX12_earth_27 : decode cX12_earth 27 = .ok (.iastore, 1) := by decide +kernel
theorem dX12_earth_28 : decode cX12_earth 28 = .ok (.iload_n 2, 1) := by decide +kernel
theorem dX12_earth_29 : decode cX12_earth 29 = .ok (.ireturn, 1) := by decide +kernel
set_option maxRecDepth 20000 in
theorem ggX12_told_X12_tellsOf : GoodIn wsX12_told wsX12_tellsOf := goodIn_r _ [6, 1, 10, 11, 12, 13, 14, 15, 16, 17, 18, 19, 20, 21, 22, 23, 24, 25, 26, 27, 28, 29, 30, 31, 32, 33, 34, 35, 36, 37, 38, 39] (by decide +kernel) (by decide +kernel)
set_option maxRecDepth 20000 in
theorem gX12_told_X12_tellsOf : GoodIn wsX12_told (wsV RX12 144 RX12 yX12_tellsOf wsX12_tellsOf) := goodIn_app (goodIn_of _ (by decide +kernel)) ggX12_told_X12_tellsOf
set_option maxRecDepth 20000 in
theorem ggX12_told_X12_in : GoodIn wsX12_told wsX12_in := goodIn_r _ [9] (by decide +kernel) (by decide +kernel)
set_option maxRecDepth 20000 in
theorem gX12_told_X12_in : GoodIn wsX12_told (va_wsS RX12 53 yX12_in wsX12_in) := goodIn_app (goodIn_of _ (by decide +kernel)) ggX12_told_X12_in
theorem dX12_told_0 : decode cX12_told 0 = .ok (.iload_n 1, 1) := by decide +kernel
theorem dX12_told_1 : decode cX12_told 1 = .ok (.lookupswitch 45 #[(4, 27), (5, 36)], 27) := by decide +kernel
theorem dX12_told_28 : decode cX12_told 28 = .ok (.aload_n 0, 1) := by decide +kernel
theorem dX12_told_29 : decode cX12_told 29 = .ok (.sipush 168, 3) := by decide +kernel
theorem dX12_told_32 : decode cX12_told 32 = .ok (.iconst 1, 1) := by decide +kernel
theorem dX12_told_33 : decode cX12_told 33 = .ok (.invokevirtual 144, 3) := by decide +kernel
theorem dX12_told_36 : decode cX12_told 36 = .ok (.ireturn, 1) := by decide +kernel
theorem dX12_told_37 : decode cX12_told 37 = .ok (.aload_n 0, 1) := by decide +kernel
theorem dX12_told_38 : decode cX12_told 38 = .ok (.sipush 173, 3) := by decide +kernel
theorem dX12_told_41 : decode cX12_told 41 = .ok (.iconst 2, 1) := by decide +kernel
theorem dX12_told_42 : decode cX12_told 42 = .ok (.invokevirtual 144, 3) := by decide +kernel
theorem dX12_told_45 : decode cX12_told 45 = .ok (.ireturn, 1) := by decide +kernel
theorem dX12_told_46 : decode cX12_told 46 = .ok (.iload_n 1, 1) := by decide +kernel
theorem dX12_told_47 : decode cX12_told 47 = .ok (.iconst 0, 1) := by decide +kernel
theorem dX12_told_48 : decode cX12_told 48 = .ok (.iconst 3, 1) := by decide +kernel
theorem dX12_told_49 : decode cX12_told 49 = .ok (.invokestatic 53, 3) := by decide +kernel
theorem dX12_told_52 : decode cX12_told 52 = .ok (.ifCond .eq 12, 3) := by decide +kernel
theorem dX12_told_55 : decode cX12_told 55 = .ok (.aload_n 0, 1) := by decide +kernel
theorem dX12_told_56 : decode cX12_told 56 = .ok (.getfield 9, 3) := by decide +kernel
theorem dX12_told_59 : decode cX12_told 59 = .ok (.iload_n 1, 1) := by decide +kernel
theorem dX12_told_60 : decode cX12_told 60 = .ok (.iaload, 1) := by decide +kernel
theorem dX12_told_61 : decode cX12_told 61 = .ok (.goto 4, 3) := by decide +kernel
theorem dX12_told_64 : decode cX12_told 64 = .ok (.iconst (-1), 1) := by decide +kernel
theorem dX12_told_65 : decode cX12_told 65 = .ok (.ireturn, 1) := by decide +kernel
set_option maxRecDepth 20000 in
theorem ggX12_man_X12_in : GoodIn wsX12_man wsX12_in := goodIn_r _ [5] (by decide +kernel) (by decide +kernel)
set_option maxRecDepth 20000 in
theorem gX12_man_X12_in : GoodIn wsX12_man (va_wsS RX12 53 yX12_in wsX12_in) := goodIn_app (goodIn_of _ (by decide +kernel)) ggX12_man_X12_in
theorem dX12_man_0 : decode cX12_man 0 = .ok (.iload_n 1, 1) := by decide +kernel
theorem dX12_man_1 : decode cX12_man 1 = .ok (.iconst 0, 1) := by decide +kernel
theorem dX12_man_2 : decode cX12_man 2 = .ok (.bipush 6, 2) := by decide +kernel
theorem dX12_man_4 : decode cX12_man 4 = .ok (.invokestatic 53, 3) := by decide +kernel
theorem dX12_man_7 : decode cX12_man 7 = .ok (.ifCond .ne 5, 3) := by decide +kernel
theorem dX12_man_10 : decode cX12_man 10 = .ok (.iconst (-1), 1) := by decide +kernel
theorem dX12_man_11 : decode cX12_man 11 = .ok (.ireturn, 1) := by decide +kernel
theorem dX12_man_12 : decode cX12_man 12 = .ok (.iload_n 2, 1) := by decide +kernel
theorem dX12_man_13 : decode cX12_man 13 = .ok (.iconst 0, 1) := by decide +kernel
theorem dX12_man_14 : decode cX12_man 14 = .ok (.bipush 9, 2) := by decide +kernel
theorem dX12_man_16 : decode cX12_man 16 = .ok (.invokestatic 53, 3) := by decide +kernel
theorem dX12_man_19 : decode cX12_man 19 = .ok (.ifCond .eq 13, 3) := by decide +kernel
theorem dX12_man_22 : decode cX12_man 22 = .ok (.iload_n 3, 1) := by decide +kernel
theorem dX12_man_23 : decode cX12_man 23 = .ok (.iconst 1, 1) := by decide +kernel
theorem dX12_man_24 : decode cX12_man 24 = .ok (.bipush 20, 2) := by decide +kernel
theorem dX12_man_26 : decode cX12_man 26 = .ok (.invokestatic 53, 3) := by decide +kernel
theorem dX12_man_29 : decode cX12_man 29 = .ok (.ifCond .ne 6, 3) := by decide +kernel
theorem dX12_man_32 : decode cX12_man 32 = .ok (.bipush (-2), 2) := by decide +kernel
theorem dX12_man_34 : decode cX12_man 34 = .ok (.ireturn, 1) := by decide +kernel
theorem dX12_man_35 : decode cX12_man 35 = .ok (.aload_n 0, 1) := by decide +kernel
theorem dX12_man_36 : decode cX12_man 36 = .ok (.getfield 9, 3) := by decide +kernel
theorem dX12_man_39 : decode cX12_man 39 = .ok (.bipush 38, 2) := by decide +kernel
theorem dX12_man_41 : decode cX12_man 41 = .ok (.iaload, 1) := by decide +kernel
theorem dX12_man_42 : decode cX12_man 42 = .ok (.iconst 4, 1) := by decide +kernel
theorem dX12_man_43 : decode cX12_man 43 = .ok (.if_icmp .ne 6, 3) := by decide +kernel
theorem dX12_man_46 : decode cX12_man 46 = .ok (.bipush (-4), 2) := by decide +kernel
theorem dX12_man_48 : decode cX12_man 48 = .ok (.ireturn, 1) := by decide +kernel
theorem dX12_man_49 : decode cX12_man 49 = .ok (.aload_n 0, 1) := by decide +kernel
theorem dX12_man_50 : decode cX12_man 50 = .ok (.getfield 9, 3) := by decide +kernel
theorem dX12_man_53 : decode cX12_man 53 = .ok (.bipush 38, 2) := by decide +kernel
theorem dX12_man_55 : decode cX12_man 55 = .ok (.iaload, 1) := by decide +kernel
theorem dX12_man_56 : decode cX12_man 56 = .ok (.istore 4, 2) := by decide +kernel
theorem dX12_man_58 : decode cX12_man 58 = .ok (.aload_n 0, 1) := by decide +kernel
theorem dX12_man_59 : decode cX12_man 59 = .ok (.getfield 9, 3) := by decide +kernel
theorem dX12_man_62 : decode cX12_man 62 = .ok (.bipush 44, 2) := by decide +kernel
theorem dX12_man_64 : decode cX12_man 64 = .ok (.iload 4, 2) := by decide +kernel
theorem dX12_man_66 : decode cX12_man 66 = .ok (.iadd, 1) := by decide +kernel
theorem dX12_man_67 : decode cX12_man 67 = .ok (.iload_n 1, 1) := by decide +kernel
theorem dX12_man_68 : decode cX12_man 68 = .ok (.iastore, 1) := by decide +kernel
theorem dX12_man_69 : decode cX12_man 69 = .ok (.aload_n 0, 1) := by decide +kernel
theorem dX12_man_70 : decode cX12_man 70 = .ok (.getfield 9, 3) := by decide +kernel
theorem dX12_man_73 : decode cX12_man 73 = .ok (.bipush 48, 2) := by decide +kernel
theorem dX12_man_75 : decode cX12_man 75 = .ok (.iload 4, 2) := by decide +kernel
theorem dX12_man_77 : decode cX12_man 77 = .ok (.iadd, 1) := by decide +kernel
theorem dX12_man_78 : decode cX12_man 78 = .ok (.iload_n 2, 1) := by decide +kernel
theorem dX12_man_79 : decode cX12_man 79 = .ok (.iastore, 1) := by decide +kernel
theorem dX12_man_80 : decode cX12_man 80 = .ok (.aload_n 0, 1) := by decide +kernel
theorem dX12_man_81 : decode cX12_man 81 = .ok (.getfield 9, 3) := by decide +kernel
theorem dX12_man_84 : decode cX12_man 84 = .ok (.bipush 52, 2) := by decide +kernel
theorem dX12_man_86 : decode cX12_man 86 = .ok (.iload 4, 2) := by decide +kernel
theorem dX12_man_88 : decode cX12_man 88 = .ok (.iadd, 1) := by decide +kernel
theorem dX12_man_89 : decode cX12_man 89 = .ok (.iload_n 3, 1) := by decide +kernel
theorem dX12_man_90 : decode cX12_man 90 = .ok (.iastore, 1) := by decide +kernel
theorem dX12_man_91 : decode cX12_man 91 = .ok (.aload_n 0, 1) := by decide +kernel
theorem dX12_man_92 : decode cX12_man 92 = .ok (.getfield 9, 3) := by decide +kernel
theorem dX12_man_95 : decode cX12_man 95 = .ok (.iconst 4, 1) := by decide +kernel
theorem dX12_man_96 : decode cX12_man 96 = .ok (.iload 4, 2) := by decide +kernel
theorem dX12_man_98 : decode cX12_man 98 = .ok (.iadd, 1) := by decide +kernel
theorem dX12_man_99 : decode cX12_man 99 = .ok (.iconst 0, 1) := by decide +kernel
theorem dX12_man_100 : decode cX12_man 100 = .ok (.iastore, 1) := by decide +kernel
theorem dX12_man_101 : decode cX12_man 101 = .ok (.aload_n 0, 1) := by decide +kernel
theorem dX12_man_102 : decode cX12_man 102 = .ok (.getfield 9, 3) := by decide +kernel
theorem dX12_man_105 : decode cX12_man 105 = .ok (.bipush 38, 2) := by decide +kernel
theorem dX12_man_107 : decode cX12_man 107 = .ok (.dup2, 1) := by decide +kernel
theorem dX12_man_108 : decode cX12_man 108 = .ok (.iaload, 1) := by decide +kernel
theorem dX12_man_109 : decode cX12_man 109 = .ok (.iconst 1, 1) := by decide +kernel
theorem dX12_man_110 : decode cX12_man 110 = .ok (.iadd, 1) := by decide +kernel
theorem dX12_man_111 : decode cX12_man 111 = .ok (.iastore, 1) := by decide +kernel
theorem dX12_man_112 : decode cX12_man 112 = .ok (.iload 4, 2) := by decide +kernel
theorem dX12_man_114 : decode cX12_man 114 = .ok (.ireturn, 1) := by decide +kernel
set_option maxRecDepth 20000 in
theorem ggX12_of_X12_isMan : GoodIn wsX12_of wsX12_isMan := goodIn_r _ [6, 1, 7, 8, 5, 9, 10, 11, 12, 13, 14, 15, 16, 17, 18, 19, 20, 21, 22, 23, 24, 25, 26, 27, 28, 29, 30, 31, 32, 33, 34, 35, 36, 37, 38, 39] (by decide +kernel) (by decide +kernel)
set_option maxRecDepth 20000 in
theorem gX12_of_X12_isMan : GoodIn wsX12_of (wsV RX12 148 RX12 yX12_isMan wsX12_isMan) := goodIn_app (goodIn_of _ (by decide +kernel)) ggX12_of_X12_isMan
set_option maxRecDepth 20000 in
theorem ggX12_of_X12_in : GoodIn wsX12_of wsX12_in := goodIn_r _ [9] (by decide +kernel) (by decide +kernel)
set_option maxRecDepth 20000 in
theorem gX12_of_X12_in : GoodIn wsX12_of (va_wsS RX12 53 yX12_in wsX12_in) := goodIn_app (goodIn_of _ (by decide +kernel)) ggX12_of_X12_in
theorem dX12_of_0 : decode cX12_of 0 = .ok (.aload_n 0, 1) := by decide +kernel
theorem dX12_of_1 : decode cX12_of 1 = .ok (.iload_n 1, 1) := by decide +kernel
theorem dX12_of_2 : decode cX12_of 2 = .ok (.invokevirtual 148, 3) := by decide +kernel
theorem dX12_of_5 : decode cX12_of 5 = .ok (.ifCond .eq 12, 3) := by decide +kernel
theorem dX12_of_8 : decode cX12_of 8 = .ok (.iload_n 2, 1) := by decide +kernel
theorem dX12_of_9 : decode cX12_of 9 = .ok (.iconst 0, 1) := by decide +kernel
theorem dX12_of_10 : decode cX12_of 10 = .ok (.iconst 3, 1) := by decide +kernel
theorem dX12_of_11 : decode cX12_of 11 = .ok (.invokestatic 53, 3) := by decide +kernel
theorem dX12_of_14 : decode cX12_of 14 = .ok (.ifCond .ne 5, 3) := by decide +kernel
theorem dX12_of_17 : decode cX12_of 17 = .ok (.iconst (-1), 1) := by decide +kernel
theorem dX12_of_18 : decode cX12_of 18 = .ok (.ireturn, 1) := by decide +kernel
theorem dX12_of_19 : decode cX12_of 19 = .ok (.iload_n 2, 1) := by decide +kernel
theorem dX12_of_20 : decode cX12_of 20 = .ok (.iconst 3, 1) := by decide +kernel
theorem dX12_of_21 : decode cX12_of 21 = .ok (.if_icmp .ne 14, 3) := by decide +kernel
theorem dX12_of_24 : decode cX12_of 24 = .ok (.aload_n 0, 1) := by decide +kernel
theorem dX12_of_25 : decode cX12_of 25 = .ok (.getfield 9, 3) := by decide +kernel
theorem dX12_of_28 : decode cX12_of 28 = .ok (.iconst 4, 1) := by decide +kernel
theorem dX12_of_29 : decode cX12_of 29 = .ok (.iload_n 1, 1) := by decide +kernel
theorem dX12_of_30 : decode cX12_of 30 = .ok (.iadd, 1) := by decide +kernel
theorem dX12_of_31 : decode cX12_of 31 = .ok (.iaload, 1) := by decide +kernel
theorem dX12_of_32 : decode cX12_of 32 = .ok (.goto 16, 3) := by decide +kernel
theorem dX12_of_35 : decode cX12_of 35 = .ok (.aload_n 0, 1) := by decide +kernel
theorem dX12_of_36 : decode cX12_of 36 = .ok (.getfield 9, 3) := by decide +kernel
theorem dX12_of_39 : decode cX12_of 39 = .ok (.bipush 44, 2) := by decide +kernel
theorem dX12_of_41 : decode cX12_of 41 = .ok (.iconst 4, 1) := by decide +kernel
theorem dX12_of_42 : decode cX12_of 42 = .ok (.iload_n 2, 1) := by decide +kernel
theorem dX12_of_43 : decode cX12_of 43 = .ok (.imul, 1) := by decide +kernel
theorem dX12_of_44 : decode cX12_of 44 = .ok (.iadd, 1) := by decide +kernel
theorem dX12_of_45 : decode cX12_of 45 = .ok (.iload_n 1, 1) := by decide +kernel
theorem dX12_of_46 : decode cX12_of 46 = .ok (.iadd, 1) := by decide +kernel
theorem dX12_of_47 : decode cX12_of 47 = .ok (.iaload, 1) := by decide +kernel
theorem dX12_of_48 : decode cX12_of 48 = .ok (.ireturn, 1) := by decide +kernel
set_option maxRecDepth 20000 in
theorem ggX12_looks_X12_looksAnew : GoodIn wsX12_looks wsX12_looksAnew := goodIn_r _ [12, 13, 14, 5, 7, 15, 16, 17, 18, 11, 19, 20, 21, 22, 23, 24, 25, 26, 27, 28, 29, 30, 31, 32, 33, 34, 35, 36, 37, 38, 39, 40, 41, 42, 43, 44, 45, 46, 47, 48, 49] (by decide +kernel) (by decide +kernel)
set_option maxRecDepth 20000 in
theorem gX12_looks_X12_looksAnew : GoodIn wsX12_looks (wsV RX12 154 RX12 yX12_looksAnew wsX12_looksAnew) := goodIn_app (goodIn_of _ (by decide +kernel)) ggX12_looks_X12_looksAnew
theorem dX12_looks_0 : decode cX12_looks 0 = .ok (.aload_n 0, 1) := by decide +kernel
theorem dX12_looks_1 : decode cX12_looks 1 = .ok (.dup, 1) := by decide +kernel
theorem dX12_looks_2 : decode cX12_looks 2 = .ok (.getfield 37, 3) := by decide +kernel
theorem dX12_looks_5 : decode cX12_looks 5 = .ok (.iload_n 1, 1) := by decide +kernel
theorem dX12_looks_6 : decode cX12_looks 6 = .ok (.aload_n 0, 1) := by decide +kernel
theorem dX12_looks_7 : decode cX12_looks 7 = .ok (.getfield 151, 3) := by decide +kernel
theorem dX12_looks_10 : decode cX12_looks 10 = .ok (.if_icmp .ne 7, 3) := by decide +kernel
theorem dX12_looks_13 : decode cX12_looks 13 = .ok (.iconst 0, 1) := by decide +kernel
theorem dX12_looks_14 : decode cX12_looks 14 = .ok (.goto 4, 3) := by decide +kernel
theorem dX12_looks_17 : decode cX12_looks 17 = .ok (.iconst 1, 1) := by decide +kernel
theorem dX12_looks_18 : decode cX12_looks 18 = .ok (.iadd, 1) := by decide +kernel
theorem dX12_looks_19 : decode cX12_looks 19 = .ok (.putfield 37, 3) := by decide +kernel
theorem dX12_looks_22 : decode cX12_looks 22 = .ok (.aload_n 0, 1) := by decide +kernel
theorem dX12_looks_23 : decode cX12_looks 23 = .ok (.iload_n 1, 1) := by decide +kernel
theorem dX12_looks_24 : decode cX12_looks 24 = .ok (.putfield 151, 3) := by decide +kernel
theorem dX12_looks_27 : decode cX12_looks 27 = .ok (.bipush 21, 2) := by decide +kernel
theorem dX12_looks_29 : decode cX12_looks 29 = .ok (.iload_n 2, 1) := by decide +kernel
theorem dX12_looks_30 : decode cX12_looks 30 = .ok (.imul, 1) := by decide +kernel
theorem dX12_looks_31 : decode cX12_looks 31 = .ok (.iload_n 3, 1) := by decide +kernel
theorem dX12_looks_32 : decode cX12_looks 32 = .ok (.iadd, 1) := by decide +kernel
theorem dX12_looks_33 : decode cX12_looks 33 = .ok (.istore 4, 2) := by decide +kernel
theorem dX12_looks_35 : decode cX12_looks 35 = .ok (.aload_n 0, 1) := by decide +kernel
theorem dX12_looks_36 : decode cX12_looks 36 = .ok (.getfield 28, 3) := by decide +kernel
theorem dX12_looks_39 : decode cX12_looks 39 = .ok (.iload 4, 2) := by decide +kernel
theorem dX12_looks_41 : decode cX12_looks 41 = .ok (.iaload, 1) := by decide +kernel
theorem dX12_looks_42 : decode cX12_looks 42 = .ok (.aload_n 0, 1) := by decide +kernel
theorem dX12_looks_43 : decode cX12_looks 43 = .ok (.getfield 37, 3) := by decide +kernel
theorem dX12_looks_46 : decode cX12_looks 46 = .ok (.if_icmp .eq 43, 3) := by decide +kernel
theorem dX12_looks_49 : decode cX12_looks 49 = .ok (.aload_n 0, 1) := by decide +kernel
theorem dX12_looks_50 : decode cX12_looks 50 = .ok (.iload_n 1, 1) := by decide +kernel
theorem dX12_looks_51 : decode cX12_looks 51 = .ok (.iload_n 2, 1) := by decide +kernel
theorem dX12_looks_52 : decode cX12_looks 52 = .ok (.iload_n 3, 1) := by decide +kernel
theorem dX12_looks_53 : decode cX12_looks 53 = .ok (.invokevirtual 154, 3) := by decide +kernel
theorem dX12_looks_56 : decode cX12_looks 56 = .ok (.aload_n 0, 1) := by decide +kernel
theorem dX12_looks_57 : decode cX12_looks 57 = .ok (.getfield 28, 3) := by decide +kernel
theorem dX12_looks_60 : decode cX12_looks 60 = .ok (.iload 4, 2) := by decide +kernel
theorem dX12_looks_62 : decode cX12_looks 62 = .ok (.aload_n 0, 1) := by decide +kernel
theorem dX12_looks_63 : decode cX12_looks 63 = .ok (.getfield 37, 3) := by decide +kernel
theorem dX12_looks_66 : decode cX12_looks 66 = .ok (.iastore, 1) := by decide +kernel
theorem dX12_looks_67 : decode cX12_looks 67 = .ok (.aload_n 0, 1) := by decide +kernel
theorem dX12_looks_68 : decode cX12_looks 68 = .ok (.getfield 31, 3) := by decide +kernel
theorem dX12_looks_71 : decode cX12_looks 71 = .ok (.iload 4, 2) := by decide +kernel
theorem dX12_looks_73 : decode cX12_looks 73 = .ok (.aload_n 0, 1) := by decide +kernel
theorem dX12_looks_74 : decode cX12_looks 74 = .ok (.getfield 158, 3) := by decide +kernel
theorem dX12_looks_77 : decode cX12_looks 77 = .ok (.iastore, 1) := by decide +kernel
theorem dX12_looks_78 : decode cX12_looks 78 = .ok (.aload_n 0, 1) := by decide +kernel
theorem dX12_looks_79 : decode cX12_looks 79 = .ok (.getfield 34, 3) := by decide +kernel
theorem dX12_looks_82 : decode cX12_looks 82 = .ok (.iload 4, 2) := by decide +kernel
theorem dX12_looks_84 : decode cX12_looks 84 = .ok (.aload_n 0, 1) := by decide +kernel
theorem dX12_looks_85 : decode cX12_looks 85 = .ok (.getfield 161, 3) := by decide +kernel
theorem dX12_looks_88 : decode cX12_looks 88 = .ok (.iastore, 1) := by decide +kernel
theorem dX12_looks_89 : decode cX12_looks 89 = .ok (.aload_n 0, 1) := by decide +kernel
theorem dX12_looks_90 : decode cX12_looks 90 = .ok (.aload_n 0, 1) := by decide +kernel
theorem dX12_looks_91 : decode cX12_looks 91 = .ok (.getfield 31, 3) := by decide +kernel
theorem dX12_looks_94 : decode cX12_looks 94 = .ok (.iload 4, 2) := by decide +kernel
theorem dX12_looks_96 : decode cX12_looks 96 = .ok (.iaload, 1) := by decide +kernel
theorem dX12_looks_97 : decode cX12_looks 97 = .ok (.putfield 158, 3) := by decide +kernel
theorem dX12_looks_100 : decode cX12_looks 100 = .ok (.aload_n 0, 1) := by decide +kernel
theorem dX12_looks_101 : decode cX12_looks 101 = .ok (.aload_n 0, 1) := by decide +kernel
theorem dX12_looks_102 : decode cX12_looks 102 = .ok (.getfield 34, 3) := by decide +kernel
theorem dX12_looks_105 : decode cX12_looks 105 = .ok (.iload 4, 2) := by decide +kernel
theorem dX12_looks_107 : decode cX12_looks 107 = .ok (.iaload, 1) := by decide +kernel
theorem dX12_looks_108 : decode cX12_looks 108 = .ok (.putfield 161, 3) := by decide +kernel
theorem dX12_looks_111 : decode cX12_looks 111 = .ok (.return_, 1) := by decide +kernel
set_option maxRecDepth 20000 in
theorem ggX12_looksAnew_X12_tellsOf : GoodIn wsX12_looksAnew wsX12_tellsOf := goodIn_r _ [10, 2, 11, 12, 13, 14, 15, 16, 17, 18, 19, 20, 21, 22, 23, 24, 25, 26, 27, 28, 29, 30, 31, 32, 33, 34, 35, 36, 37, 38, 39, 40] (by decide +kernel) (by decide +kernel)
set_option maxRecDepth 20000 in
theorem gX12_looksAnew_X12_tellsOf : GoodIn wsX12_looksAnew (wsV RX12 144 RX12 yX12_tellsOf wsX12_tellsOf) := goodIn_app (goodIn_of _ (by decide +kernel)) ggX12_looksAnew_X12_tellsOf
theorem dX12_looksAnew_0 : decode cX12_looksAnew 0 = .ok (.aload_n 0, 1) := by decide +kernel
theorem dX12_looksAnew_1 : decode cX12_looksAnew 1 = .ok (.getfield 21, 3) := by decide +kernel
theorem dX12_looksAnew_4 : decode cX12_looksAnew 4 = .ok (.iconst 0, 1) := by decide +kernel
theorem dX12_looksAnew_5 : decode cX12_looksAnew 5 = .ok (.iload_n 2, 1) := by decide +kernel
theorem dX12_looksAnew_6 : decode cX12_looksAnew 6 = .ok (.iastore, 1) := by decide +kernel
theorem dX12_looksAnew_7 : decode cX12_looksAnew 7 = .ok (.aload_n 0, 1) := by decide +kernel
theorem dX12_looksAnew_8 : decode cX12_looksAnew 8 = .ok (.getfield 21, 3) := by decide +kernel
theorem dX12_looksAnew_11 : decode cX12_looksAnew 11 = .ok (.iconst 1, 1) := by decide +kernel
theorem dX12_looksAnew_12 : decode cX12_looksAnew 12 = .ok (.aload_n 0, 1) := by decide +kernel
theorem dX12_looksAnew_13 : decode cX12_looksAnew 13 = .ok (.getfield 9, 3) := by decide +kernel
theorem dX12_looksAnew_16 : decode cX12_looksAnew 16 = .ok (.bipush 8, 2) := by decide +kernel
theorem dX12_looksAnew_18 : decode cX12_looksAnew 18 = .ok (.iload_n 2, 1) := by decide +kernel
theorem dX12_looksAnew_19 : decode cX12_looksAnew 19 = .ok (.iadd, 1) := by decide +kernel
theorem dX12_looksAnew_20 : decode cX12_looksAnew 20 = .ok (.iaload, 1) := by decide +kernel
theorem dX12_looksAnew_21 : decode cX12_looksAnew 21 = .ok (.iastore, 1) := by decide +kernel
theorem dX12_looksAnew_22 : decode cX12_looksAnew 22 = .ok (.aload_n 0, 1) := by decide +kernel
theorem dX12_looksAnew_23 : decode cX12_looksAnew 23 = .ok (.getfield 21, 3) := by decide +kernel
theorem dX12_looksAnew_26 : decode cX12_looksAnew 26 = .ok (.iconst 2, 1) := by decide +kernel
theorem dX12_looksAnew_27 : decode cX12_looksAnew 27 = .ok (.aload_n 0, 1) := by decide +kernel
theorem dX12_looksAnew_28 : decode cX12_looksAnew 28 = .ok (.getfield 9, 3) := by decide +kernel
theorem dX12_looksAnew_31 : decode cX12_looksAnew 31 = .ok (.bipush 18, 2) := by decide +kernel
theorem dX12_looksAnew_33 : decode cX12_looksAnew 33 = .ok (.iload_n 2, 1) := by decide +kernel
theorem dX12_looksAnew_34 : decode cX12_looksAnew 34 = .ok (.iadd, 1) := by decide +kernel
theorem dX12_looksAnew_35 : decode cX12_looksAnew 35 = .ok (.iaload, 1) := by decide +kernel
theorem dX12_looksAnew_36 : decode cX12_looksAnew 36 = .ok (.iastore, 1) := by decide +kernel
theorem dX12_looksAnew_37 : decode cX12_looksAnew 37 = .ok (.aload_n 0, 1) := by decide +kernel
theorem dX12_looksAnew_38 : decode cX12_looksAnew 38 = .ok (.getfield 21, 3) := by decide +kernel
theorem dX12_looksAnew_41 : decode cX12_looksAnew 41 = .ok (.iconst 3, 1) := by decide +kernel
theorem dX12_looksAnew_42 : decode cX12_looksAnew 42 = .ok (.aload_n 0, 1) := by decide +kernel
theorem dX12_looksAnew_43 : decode cX12_looksAnew 43 = .ok (.getfield 9, 3) := by decide +kernel
theorem dX12_looksAnew_46 : decode cX12_looksAnew 46 = .ok (.bipush 28, 2) := by decide +kernel
theorem dX12_looksAnew_48 : decode cX12_looksAnew 48 = .ok (.iload_n 2, 1) := by decide +kernel
theorem dX12_looksAnew_49 : decode cX12_looksAnew 49 = .ok (.iadd, 1) := by decide +kernel
theorem dX12_looksAnew_50 : decode cX12_looksAnew 50 = .ok (.iaload, 1) := by decide +kernel
theorem dX12_looksAnew_51 : decode cX12_looksAnew 51 = .ok (.iastore, 1) := by decide +kernel
theorem dX12_looksAnew_52 : decode cX12_looksAnew 52 = .ok (.aload_n 0, 1) := by decide +kernel
theorem dX12_looksAnew_53 : decode cX12_looksAnew 53 = .ok (.getfield 21, 3) := by decide +kernel
theorem dX12_looksAnew_56 : decode cX12_looksAnew 56 = .ok (.iconst 4, 1) := by decide +kernel
theorem dX12_looksAnew_57 : decode cX12_looksAnew 57 = .ok (.iload_n 3, 1) := by decide +kernel
theorem dX12_looksAnew_58 : decode cX12_looksAnew 58 = .ok (.iastore, 1) := by decide +kernel
theorem dX12_looksAnew_59 : decode cX12_looksAnew 59 = .ok (.aload_n 0, 1) := by decide +kernel
theorem dX12_looksAnew_60 : decode cX12_looksAnew 60 = .ok (.getfield 21, 3) := by decide +kernel
theorem dX12_looksAnew_63 : decode cX12_looksAnew 63 = .ok (.iconst 5, 1) := by decide +kernel
theorem dX12_looksAnew_64 : decode cX12_looksAnew 64 = .ok (.aload_n 0, 1) := by decide +kernel
theorem dX12_looksAnew_65 : decode cX12_looksAnew 65 = .ok (.getfield 9, 3) := by decide +kernel
theorem dX12_looksAnew_68 : decode cX12_looksAnew 68 = .ok (.bipush 44, 2) := by decide +kernel
theorem dX12_looksAnew_70 : decode cX12_looksAnew 70 = .ok (.iload_n 1, 1) := by decide +kernel
theorem dX12_looksAnew_71 : decode cX12_looksAnew 71 = .ok (.iadd, 1) := by decide +kernel
theorem dX12_looksAnew_72 : decode cX12_looksAnew 72 = .ok (.iaload, 1) := by decide +kernel
theorem dX12_looksAnew_73 : decode cX12_looksAnew 73 = .ok (.iastore, 1) := by decide +kernel
theorem dX12_looksAnew_74 : decode cX12_looksAnew 74 = .ok (.aload_n 0, 1) := by decide +kernel
theorem dX12_looksAnew_75 : decode cX12_looksAnew 75 = .ok (.iconst 0, 1) := by decide +kernel
theorem dX12_looksAnew_76 : decode cX12_looksAnew 76 = .ok (.putfield 158, 3) := by decide +kernel
theorem dX12_looksAnew_79 : decode cX12_looksAnew 79 = .ok (.aload_n 0, 1) := by decide +kernel
theorem dX12_looksAnew_80 : decode cX12_looksAnew 80 = .ok (.iconst 0, 1) := by decide +kernel
theorem dX12_looksAnew_81 : decode cX12_looksAnew 81 = .ok (.putfield 161, 3) := by decide +kernel
theorem dX12_looksAnew_84 : decode cX12_looksAnew 84 = .ok (.aload_n 0, 1) := by decide +kernel
theorem dX12_looksAnew_85 : decode cX12_looksAnew 85 = .ok (.sipush 178, 3) := by decide +kernel
theorem dX12_looksAnew_88 : decode cX12_looksAnew 88 = .ok (.iconst 0, 1) := by decide +kernel
theorem dX12_looksAnew_89 : decode cX12_looksAnew 89 = .ok (.invokevirtual 144, 3) := by decide +kernel
theorem dX12_looksAnew_92 : decode cX12_looksAnew 92 = .ok (.istore 4, 2) := by decide +kernel
theorem dX12_looksAnew_94 : decode cX12_looksAnew 94 = .ok (.sipush 183, 3) := by decide +kernel
theorem dX12_looksAnew_97 : decode cX12_looksAnew 97 = .ok (.sipush 140, 3) := by decide +kernel
theorem dX12_looksAnew_100 : decode cX12_looksAnew 100 = .ok (.aload_n 0, 1) := by decide +kernel
theorem dX12_looksAnew_101 : decode cX12_looksAnew 101 = .ok (.getfield 9, 3) := by decide +kernel
theorem dX12_looksAnew_104 : decode cX12_looksAnew 104 = .ok (.bipush 42, 2) := by decide +kernel
theorem dX12_looksAnew_106 : decode cX12_looksAnew 106 = .ok (.iaload, 1) := by decide +kernel
theorem dX12_looksAnew_107 : decode cX12_looksAnew 107 = .ok (.imul, 1) := by decide +kernel
theorem dX12_looksAnew_108 : decode cX12_looksAnew 108 = .ok (.iadd, 1) := by decide +kernel
theorem dX12_looksAnew_109 : decode cX12_looksAnew 109 = .ok (.istore 5, 2) := by decide +kernel
theorem dX12_looksAnew_111 : decode cX12_looksAnew 111 = .ok (.iconst 0, 1) := by decide +kernel
theorem dX12_looksAnew_112 : decode cX12_looksAnew 112 = .ok (.istore 6, 2) := by decide +kernel
theorem dX12_looksAnew_114 : decode cX12_looksAnew 114 = .ok (.iload 5, 2) := by decide +kernel
theorem dX12_looksAnew_116 : decode cX12_looksAnew 116 = .ok (.istore 7, 2) := by decide +kernel
theorem dX12_looksAnew_118 : decode cX12_looksAnew 118 = .ok (.iload 7, 2) := by decide +kernel
theorem dX12_looksAnew_120 : decode cX12_looksAnew 120 = .ok (.iload 5, 2) := by decide +kernel
theorem dX12_looksAnew_122 : decode cX12_looksAnew 122 = .ok (.iload 4, 2) := by decide +kernel
theorem dX12_looksAnew_124 : decode cX12_looksAnew 124 = .ok (.iadd, 1) := by decide +kernel
theorem dX12_looksAnew_125 : decode cX12_looksAnew 125 = .ok (.if_icmp .ge 329, 3) := by decide +kernel
theorem dX12_looksAnew_128 : decode cX12_looksAnew 128 = .ok (.aload_n 0, 1) := by decide +kernel
theorem dX12_looksAnew_129 : decode cX12_looksAnew 129 = .ok (.getfield 9, 3) := by decide +kernel
theorem dX12_looksAnew_132 : decode cX12_looksAnew 132 = .ok (.iload 7, 2) := by decide +kernel
theorem dX12_looksAnew_134 : decode cX12_looksAnew 134 = .ok (.iaload, 1) := by decide +kernel
theorem dX12_looksAnew_135 : decode cX12_looksAnew 135 = .ok (.istore 8, 2) := by decide +kernel
theorem dX12_looksAnew_137 : decode cX12_looksAnew 137 = .ok (.iload 8, 2) := by decide +kernel
theorem dX12_looksAnew_139 : decode cX12_looksAnew 139 = .ok (.ifCond .lt 97, 3) := by decide +kernel
theorem dX12_looksAnew_142 : decode cX12_looksAnew 142 = .ok (.aload_n 0, 1) := by decide +kernel
theorem dX12_looksAnew_143 : decode cX12_looksAnew 143 = .ok (.getfield 21, 3) := by decide +kernel
theorem dX12_looksAnew_146 : decode cX12_looksAnew 146 = .ok (.iload 8, 2) := by decide +kernel
theorem dX12_looksAnew_148 : decode cX12_looksAnew 148 = .ok (.bipush 8, 2) := by decide +kernel
theorem dX12_looksAnew_150 : decode cX12_looksAnew 150 = .ok (.irem, 1) := by decide +kernel
theorem dX12_looksAnew_151 : decode cX12_looksAnew 151 = .ok (.iaload, 1) := by decide +kernel
theorem dX12_looksAnew_152 : decode cX12_looksAnew 152 = .ok (.istore 9, 2) := by decide +kernel
theorem dX12_looksAnew_154 : decode cX12_looksAnew 154 = .ok (.iload 8, 2) := by decide +kernel
theorem dX12_looksAnew_156 : decode cX12_looksAnew 156 = .ok (.bipush 8, 2) := by decide +kernel
theorem dX12_looksAnew_158 : decode cX12_looksAnew 158 = .ok (.idiv, 1) := by decide +kernel
theorem dX12_looksAnew_159 : decode cX12_looksAnew 159 = .ok (.iconst 4, 1) := by decide +kernel
theorem dX12_looksAnew_160 : decode cX12_looksAnew 160 = .ok (.irem, 1) := by decide +kernel
theorem dX12_looksAnew_161 : decode cX12_looksAnew 161 = .ok (.istore 10, 2) := by decide +kernel
theorem dX12_looksAnew_163 : decode cX12_looksAnew 163 = .ok (.iload 8, 2) := by decide +kernel
theorem dX12_looksAnew_165 : decode cX12_looksAnew 165 = .ok (.bipush 32, 2) := by decide +kernel
theorem dX12_looksAnew_167 : decode cX12_looksAnew 167 = .ok (.idiv, 1) := by decide +kernel
theorem dX12_looksAnew_168 : decode cX12_looksAnew 168 = .ok (.istore 11, 2) := by decide +kernel
theorem dX12_looksAnew_170 : decode cX12_looksAnew 170 = .ok (.aload_n 0, 1) := by decide +kernel
theorem dX12_looksAnew_171 : decode cX12_looksAnew 171 = .ok (.getfield 24, 3) := by decide +kernel
theorem dX12_looksAnew_174 : decode cX12_looksAnew 174 = .ok (.iload 6, 2) := by decide +kernel
theorem dX12_looksAnew_176 : decode cX12_looksAnew 176 = .ok (.iload 10, 2) := by decide +kernel
theorem dX12_looksAnew_178 : decode cX12_looksAnew 178 = .ok (.ifCond .ne 18, 3) := by decide +kernel
theorem dX12_looksAnew_181 : decode cX12_looksAnew 181 = .ok (.iload 9, 2) := by decide +kernel
theorem dX12_looksAnew_183 : decode cX12_looksAnew 183 = .ok (.iload 11, 2) := by decide +kernel
theorem dX12_looksAnew_185 : decode cX12_looksAnew 185 = .ok (.if_icmp .ge 7, 3) := by decide +kernel
theorem dX12_looksAnew_188 : decode cX12_looksAnew 188 = .ok (.iconst 1, 1) := by decide +kernel
theorem dX12_looksAnew_189 : decode cX12_looksAnew 189 = .ok (.goto 40, 3) := by decide +kernel
theorem dX12_looksAnew_192 : decode cX12_looksAnew 192 = .ok (.iconst 0, 1) := by decide +kernel
theorem dX12_looksAnew_193 : decode cX12_looksAnew 193 = .ok (.goto 36, 3) := by decide +kernel
theorem dX12_looksAnew_196 : decode cX12_looksAnew 196 = .ok (.iload 10, 2) := by decide +kernel
theorem dX12_looksAnew_198 : decode cX12_looksAnew 198 = .ok (.iconst 1, 1) := by decide +kernel
theorem dX12_looksAnew_199 : decode cX12_looksAnew 199 = .ok (.if_icmp .ne 18, 3) := by decide +kernel
theorem dX12_looksAnew_202 : decode cX12_looksAnew 202 = .ok (.iload 9, 2) := by decide +kernel
theorem dX12_looksAnew_204 : decode cX12_looksAnew 204 = .ok (.iload 11, 2) := by decide +kernel
theorem dX12_looksAnew_206 : decode cX12_looksAnew 206 = .ok (.if_icmp .ne 7, 3) := by decide +kernel
theorem dX12_looksAnew_209 : decode cX12_looksAnew 209 = .ok (.iconst 1, 1) := by decide +kernel
theorem dX12_looksAnew_210 : decode cX12_looksAnew 210 = .ok (.goto 19, 3) := by decide +kernel
theorem dX12_looksAnew_213 : decode cX12_looksAnew 213 = .ok (.iconst 0, 1) := by decide +kernel
theorem dX12_looksAnew_214 : decode cX12_looksAnew 214 = .ok (.goto 15, 3) := by decide +kernel
theorem dX12_looksAnew_217 : decode cX12_looksAnew 217 = .ok (.iload 9, 2) := by decide +kernel
theorem dX12_looksAnew_219 : decode cX12_looksAnew 219 = .ok (.iload 11, 2) := by decide +kernel
theorem dX12_looksAnew_221 : decode cX12_looksAnew 221 = .ok (.if_icmp .le 7, 3) := by decide +kernel
theorem dX12_looksAnew_224 : decode cX12_looksAnew 224 = .ok (.iconst 1, 1) := by decide +kernel
theorem dX12_looksAnew_225 : decode cX12_looksAnew 225 = .ok (.goto 4, 3) := by decide +kernel
theorem dX12_looksAnew_228 : decode cX12_looksAnew 228 = .ok (.iconst 0, 1) := by decide +kernel
theorem dX12_looksAnew_229 : decode cX12_looksAnew 229 = .ok (.bastore, 1) := by decide +kernel
theorem dX12_looksAnew_230 : decode cX12_looksAnew 230 = .ok (.iinc 6 1, 3) := by decide +kernel
theorem dX12_looksAnew_233 : decode cX12_looksAnew 233 = .ok (.goto 215, 3) := by decide +kernel
theorem dX12_looksAnew_236 : decode cX12_looksAnew 236 = .ok (.iload 8, 2) := by decide +kernel
theorem dX12_looksAnew_238 : decode cX12_looksAnew 238 = .ok (.iconst (-1), 1) := by decide +kernel
theorem dX12_looksAnew_239 : decode cX12_looksAnew 239 = .ok (.if_icmp .ne 32, 3) := by decide +kernel
theorem dX12_looksAnew_242 : decode cX12_looksAnew 242 = .ok (.aload_n 0, 1) := by decide +kernel
theorem dX12_looksAnew_243 : decode cX12_looksAnew 243 = .ok (.getfield 24, 3) := by decide +kernel
theorem dX12_looksAnew_246 : decode cX12_looksAnew 246 = .ok (.iload 6, 2) := by decide +kernel
theorem dX12_looksAnew_248 : decode cX12_looksAnew 248 = .ok (.iconst 1, 1) := by decide +kernel
theorem dX12_looksAnew_249 : decode cX12_looksAnew 249 = .ok (.isub, 1) := by decide +kernel
theorem dX12_looksAnew_250 : decode cX12_looksAnew 250 = .ok (.aload_n 0, 1) := by decide +kernel
theorem dX12_looksAnew_251 : decode cX12_looksAnew 251 = .ok (.getfield 24, 3) := by decide +kernel
theorem dX12_looksAnew_254 : decode cX12_looksAnew 254 = .ok (.iload 6, 2) := by decide +kernel
theorem dX12_looksAnew_256 : decode cX12_looksAnew 256 = .ok (.iconst 1, 1) := by decide +kernel
theorem dX12_looksAnew_257 : decode cX12_looksAnew 257 = .ok (.isub, 1) := by decide +kernel
theorem dX12_looksAnew_258 : decode cX12_looksAnew 258 = .ok (.baload, 1) := by decide +kernel
theorem dX12_looksAnew_259 : decode cX12_looksAnew 259 = .ok (.ifCond .ne 7, 3) := by decide +kernel
theorem dX12_looksAnew_262 : decode cX12_looksAnew 262 = .ok (.iconst 1, 1) := by decide +kernel
theorem dX12_looksAnew_263 : decode cX12_looksAnew 263 = .ok (.goto 4, 3) := by decide +kernel
theorem dX12_looksAnew_266 : decode cX12_looksAnew 266 = .ok (.iconst 0, 1) := by decide +kernel
theorem dX12_looksAnew_267 : decode cX12_looksAnew 267 = .ok (.bastore, 1) := by decide +kernel
theorem dX12_looksAnew_268 : decode cX12_looksAnew 268 = .ok (.goto 180, 3) := by decide +kernel
theorem dX12_looksAnew_271 : decode cX12_looksAnew 271 = .ok (.iload 8, 2) := by decide +kernel
theorem dX12_looksAnew_273 : decode cX12_looksAnew 273 = .ok (.bipush (-10), 2) := by decide +kernel
theorem dX12_looksAnew_275 : decode cX12_looksAnew 275 = .ok (.if_icmp .le 82, 3) := by decide +kernel
theorem dX12_looksAnew_278 : decode cX12_looksAnew 278 = .ok (.iinc 6 (-1), 3) := by decide +kernel
theorem dX12_looksAnew_281 : decode cX12_looksAnew 281 = .ok (.aload_n 0, 1) := by decide +kernel
theorem dX12_looksAnew_282 : decode cX12_looksAnew 282 = .ok (.getfield 24, 3) := by decide +kernel
theorem dX12_looksAnew_285 : decode cX12_looksAnew 285 = .ok (.iload 6, 2) := by decide +kernel
theorem dX12_looksAnew_287 : decode cX12_looksAnew 287 = .ok (.iconst 1, 1) := by decide +kernel
theorem dX12_looksAnew_288 : decode cX12_looksAnew 288 = .ok (.isub, 1) := by decide +kernel
theorem dX12_looksAnew_289 : decode cX12_looksAnew 289 = .ok (.iload 8, 2) := by decide +kernel
theorem dX12_looksAnew_291 : decode cX12_looksAnew 291 = .ok (.bipush (-2), 2) := by decide +kernel
theorem dX12_looksAnew_293 : decode cX12_looksAnew 293 = .ok (.if_icmp .ne 33, 3) := by decide +kernel
theorem dX12_looksAnew_296 : decode cX12_looksAnew 296 = .ok (.aload_n 0, 1) := by decide +kernel
theorem dX12_looksAnew_297 : decode cX12_looksAnew 297 = .ok (.getfield 24, 3) := by decide +kernel
theorem dX12_looksAnew_300 : decode cX12_looksAnew 300 = .ok (.iload 6, 2) := by decide +kernel
theorem dX12_looksAnew_302 : decode cX12_looksAnew 302 = .ok (.iconst 1, 1) := by decide +kernel
theorem dX12_looksAnew_303 : decode cX12_looksAnew 303 = .ok (.isub, 1) := by decide +kernel
theorem dX12_looksAnew_304 : decode cX12_looksAnew 304 = .ok (.baload, 1) := by decide +kernel
theorem dX12_looksAnew_305 : decode cX12_looksAnew 305 = .ok (.ifCond .eq 17, 3) := by decide +kernel
theorem dX12_looksAnew_308 : decode cX12_looksAnew 308 = .ok (.aload_n 0, 1) := by decide +kernel
theorem dX12_looksAnew_309 : decode cX12_looksAnew 309 = .ok (.getfield 24, 3) := by decide +kernel
theorem dX12_looksAnew_312 : decode cX12_looksAnew 312 = .ok (.iload 6, 2) := by decide +kernel
theorem dX12_looksAnew_314 : decode cX12_looksAnew 314 = .ok (.baload, 1) := by decide +kernel
theorem dX12_looksAnew_315 : decode cX12_looksAnew 315 = .ok (.ifCond .eq 7, 3) := by decide +kernel
theorem dX12_looksAnew_318 : decode cX12_looksAnew 318 = .ok (.iconst 1, 1) := by decide +kernel
theorem dX12_looksAnew_319 : decode cX12_looksAnew 319 = .ok (.goto 34, 3) := by decide +kernel
theorem dX12_looksAnew_322 : decode cX12_looksAnew 322 = .ok (.iconst 0, 1) := by decide +kernel
theorem dX12_looksAnew_323 : decode cX12_looksAnew 323 = .ok (.goto 30, 3) := by decide +kernel
theorem dX12_looksAnew_326 : decode cX12_looksAnew 326 = .ok (.aload_n 0, 1) := by decide +kernel
theorem dX12_looksAnew_327 : decode cX12_looksAnew 327 = .ok (.getfield 24, 3) := by decide +kernel
theorem dX12_looksAnew_330 : decode cX12_looksAnew 330 = .ok (.iload 6, 2) := by decide +kernel
theorem dX12_looksAnew_332 : decode cX12_looksAnew 332 = .ok (.iconst 1, 1) := by decide +kernel
theorem dX12_looksAnew_333 : decode cX12_looksAnew 333 = .ok (.isub, 1) := by decide +kernel
theorem dX12_looksAnew_334 : decode cX12_looksAnew 334 = .ok (.baload, 1) := by decide +kernel
theorem dX12_looksAnew_335 : decode cX12_looksAnew 335 = .ok (.ifCond .ne 13, 3) := by decide +kernel
theorem dX12_looksAnew_338 : decode cX12_looksAnew 338 = .ok (.aload_n 0, 1) := by decide +kernel
theorem dX12_looksAnew_339 : decode cX12_looksAnew 339 = .ok (.getfield 24, 3) := by decide +kernel
theorem dX12_looksAnew_342 : decode cX12_looksAnew 342 = .ok (.iload 6, 2) := by decide +kernel
theorem dX12_looksAnew_344 : decode cX12_looksAnew 344 = .ok (.baload, 1) := by decide +kernel
theorem dX12_looksAnew_345 : decode cX12_looksAnew 345 = .ok (.ifCond .eq 7, 3) := by decide +kernel
theorem dX12_looksAnew_348 : decode cX12_looksAnew 348 = .ok (.iconst 1, 1) := by decide +kernel
theorem dX12_looksAnew_349 : decode cX12_looksAnew 349 = .ok (.goto 4, 3) := by decide +kernel
theorem dX12_looksAnew_352 : decode cX12_looksAnew 352 = .ok (.iconst 0, 1) := by decide +kernel
theorem dX12_looksAnew_353 : decode cX12_looksAnew 353 = .ok (.bastore, 1) := by decide +kernel
theorem dX12_looksAnew_354 : decode cX12_looksAnew 354 = .ok (.goto 94, 3) := by decide +kernel
theorem dX12_looksAnew_357 : decode cX12_looksAnew 357 = .ok (.iconst 0, 1) := by decide +kernel
theorem dX12_looksAnew_358 : decode cX12_looksAnew 358 = .ok (.istore 6, 2) := by decide +kernel
theorem dX12_looksAnew_360 : decode cX12_looksAnew 360 = .ok (.aload_n 0, 1) := by decide +kernel
theorem dX12_looksAnew_361 : decode cX12_looksAnew 361 = .ok (.getfield 24, 3) := by decide +kernel
theorem dX12_looksAnew_364 : decode cX12_looksAnew 364 = .ok (.iconst 0, 1) := by decide +kernel
theorem dX12_looksAnew_365 : decode cX12_looksAnew 365 = .ok (.baload, 1) := by decide +kernel
theorem dX12_looksAnew_366 : decode cX12_looksAnew 366 = .ok (.istore 9, 2) := by decide +kernel
theorem dX12_looksAnew_368 : decode cX12_looksAnew 368 = .ok (.aload_n 0, 1) := by decide +kernel
theorem dX12_looksAnew_369 : decode cX12_looksAnew 369 = .ok (.dup, 1) := by decide +kernel
theorem dX12_looksAnew_370 : decode cX12_looksAnew 370 = .ok (.getfield 158, 3) := by decide +kernel
theorem dX12_looksAnew_373 : decode cX12_looksAnew 373 = .ok (.iload 9, 2) := by decide +kernel
theorem dX12_looksAnew_375 : decode cX12_looksAnew 375 = .ok (.ifCond .eq 11, 3) := by decide +kernel
theorem dX12_looksAnew_378 : decode cX12_looksAnew 378 = .ok (.iload 8, 2) := by decide +kernel
theorem dX12_looksAnew_380 : decode cX12_looksAnew 380 = .ok (.sipush (-400), 3) := by decide +kernel
theorem dX12_looksAnew_383 : decode cX12_looksAnew 383 = .ok (.if_icmp .gt 7, 3) := by decide +kernel
theorem dX12_looksAnew_386 : decode cX12_looksAnew 386 = .ok (.iconst 0, 1) := by decide +kernel
theorem dX12_looksAnew_387 : decode cX12_looksAnew 387 = .ok (.goto 25, 3) := by decide +kernel
theorem dX12_looksAnew_390 : decode cX12_looksAnew 390 = .ok (.iload 8, 2) := by decide +kernel
theorem dX12_looksAnew_392 : decode cX12_looksAnew 392 = .ok (.sipush (-200), 3) := by decide +kernel
theorem dX12_looksAnew_395 : decode cX12_looksAnew 395 = .ok (.if_icmp .le 11, 3) := by decide +kernel
theorem dX12_looksAnew_398 : decode cX12_looksAnew 398 = .ok (.bipush (-10), 2) := by decide +kernel
theorem dX12_looksAnew_400 : decode cX12_looksAnew 400 = .ok (.iload 8, 2) := by decide +kernel
theorem dX12_looksAnew_402 : decode cX12_looksAnew 402 = .ok (.isub, 1) := by decide +kernel
theorem dX12_looksAnew_403 : decode cX12_looksAnew 403 = .ok (.goto 9, 3) := by decide +kernel
theorem dX12_looksAnew_406 : decode cX12_looksAnew 406 = .ok (.iload 8, 2) := by decide +kernel
theorem dX12_looksAnew_408 : decode cX12_looksAnew 408 = .ok (.sipush (-200), 3) := by decide +kernel
theorem dX12_looksAnew_411 : decode cX12_looksAnew 411 = .ok (.isub, 1) := by decide +kernel
theorem dX12_looksAnew_412 : decode cX12_looksAnew 412 = .ok (.iadd, 1) := by decide +kernel
theorem dX12_looksAnew_413 : decode cX12_looksAnew 413 = .ok (.putfield 158, 3) := by decide +kernel
theorem dX12_looksAnew_416 : decode cX12_looksAnew 416 = .ok (.aload_n 0, 1) := by decide +kernel
theorem dX12_looksAnew_417 : decode cX12_looksAnew 417 = .ok (.dup, 1) := by decide +kernel
theorem dX12_looksAnew_418 : decode cX12_looksAnew 418 = .ok (.getfield 161, 3) := by decide +kernel
theorem dX12_looksAnew_421 : decode cX12_looksAnew 421 = .ok (.iload 9, 2) := by decide +kernel
theorem dX12_looksAnew_423 : decode cX12_looksAnew 423 = .ok (.ifCond .eq 20, 3) := by decide +kernel
theorem dX12_looksAnew_426 : decode cX12_looksAnew 426 = .ok (.iload 8, 2) := by decide +kernel
theorem dX12_looksAnew_428 : decode cX12_looksAnew 428 = .ok (.sipush (-400), 3) := by decide +kernel
theorem dX12_looksAnew_431 : decode cX12_looksAnew 431 = .ok (.if_icmp .gt 12, 3) := by decide +kernel
theorem dX12_looksAnew_434 : decode cX12_looksAnew 434 = .ok (.sipush (-400), 3) := by decide +kernel
theorem dX12_looksAnew_437 : decode cX12_looksAnew 437 = .ok (.iload 8, 2) := by decide +kernel
theorem dX12_looksAnew_439 : decode cX12_looksAnew 439 = .ok (.isub, 1) := by decide +kernel
theorem dX12_looksAnew_440 : decode cX12_looksAnew 440 = .ok (.goto 4, 3) := by decide +kernel
theorem dX12_looksAnew_443 : decode cX12_looksAnew 443 = .ok (.iconst 0, 1) := by decide +kernel
theorem dX12_looksAnew_444 : decode cX12_looksAnew 444 = .ok (.iadd, 1) := by decide +kernel
theorem dX12_looksAnew_445 : decode cX12_looksAnew 445 = .ok (.putfield 161, 3) := by decide +kernel
theorem dX12_looksAnew_448 : decode cX12_looksAnew 448 = .ok (.iinc 7 1, 3) := by decide +kernel
theorem dX12_looksAnew_451 : decode cX12_looksAnew 451 = .ok (.goto (-333), 3) := by decide +kernel
theorem dX12_looksAnew_454 : decode cX12_looksAnew 454 = .ok (.return_, 1) := by decide +kernel
theorem dX12_isOf_0 : decode cX12_isOf 0 = .ok (.aload_n 0, 1) := by decide +kernel
theorem dX12_isOf_1 : decode cX12_isOf 1 = .ok (.getfield 9, 3) := by decide +kernel
theorem dX12_isOf_4 : decode cX12_isOf 4 = .ok (.bipush 44, 2) := by decide +kernel
theorem dX12_isOf_6 : decode cX12_isOf 6 = .ok (.iload_n 1, 1) := by decide +kernel
theorem dX12_isOf_7 : decode cX12_isOf 7 = .ok (.iadd, 1) := by decide +kernel
theorem dX12_isOf_8 : decode cX12_isOf 8 = .ok (.iaload, 1) := by decide +kernel
theorem dX12_isOf_9 : decode cX12_isOf 9 = .ok (.iload_n 2, 1) := by decide +kernel
theorem dX12_isOf_10 : decode cX12_isOf 10 = .ok (.if_icmp .eq 16, 3) := by decide +kernel
theorem dX12_isOf_13 : decode cX12_isOf 13 = .ok (.aload_n 0, 1) := by decide +kernel
theorem dX12_isOf_14 : decode cX12_isOf 14 = .ok (.getfield 9, 3) := by decide +kernel
theorem dX12_isOf_17 : decode cX12_isOf 17 = .ok (.bipush 44, 2) := by decide +kernel
theorem dX12_isOf_19 : decode cX12_isOf 19 = .ok (.iload_n 1, 1) := by decide +kernel
theorem dX12_isOf_20 : decode cX12_isOf 20 = .ok (.iadd, 1) := by decide +kernel
theorem dX12_isOf_21 : decode cX12_isOf 21 = .ok (.iaload, 1) := by decide +kernel
theorem dX12_isOf_22 : decode cX12_isOf 22 = .ok (.iload_n 3, 1) := by decide +kernel
theorem dX12_isOf_23 : decode cX12_isOf 23 = .ok (.if_icmp .ne 7, 3) := by decide +kernel
theorem dX12_isOf_26 : decode cX12_isOf 26 = .ok (.iconst 1, 1) := by decide +kernel
theorem dX12_isOf_27 : decode cX12_isOf 27 = .ok (.goto 4, 3) := by decide +kernel
theorem dX12_isOf_30 : decode cX12_isOf 30 = .ok (.iconst 0, 1) := by decide +kernel
theorem dX12_isOf_31 : decode cX12_isOf 31 = .ok (.ireturn, 1) := by decide +kernel
theorem dX12_isNarrow_0 : decode cX12_isNarrow 0 = .ok (.aload_n 0, 1) := by decide +kernel
theorem dX12_isNarrow_1 : decode cX12_isNarrow 1 = .ok (.getfield 9, 3) := by decide +kernel
theorem dX12_isNarrow_4 : decode cX12_isNarrow 4 = .ok (.bipush 44, 2) := by decide +kernel
theorem dX12_isNarrow_6 : decode cX12_isNarrow 6 = .ok (.iload_n 1, 1) := by decide +kernel
theorem dX12_isNarrow_7 : decode cX12_isNarrow 7 = .ok (.iadd, 1) := by decide +kernel
theorem dX12_isNarrow_8 : decode cX12_isNarrow 8 = .ok (.iaload, 1) := by decide +kernel
theorem dX12_isNarrow_9 : decode cX12_isNarrow 9 = .ok (.bipush 6, 2) := by decide +kernel
theorem dX12_isNarrow_11 : decode cX12_isNarrow 11 = .ok (.if_icmp .ne 40, 3) := by decide +kernel
theorem dX12_isNarrow_14 : decode cX12_isNarrow 14 = .ok (.aload_n 0, 1) := by decide +kernel
theorem dX12_isNarrow_15 : decode cX12_isNarrow 15 = .ok (.getfield 9, 3) := by decide +kernel
theorem dX12_isNarrow_18 : decode cX12_isNarrow 18 = .ok (.bipush 28, 2) := by decide +kernel
theorem dX12_isNarrow_20 : decode cX12_isNarrow 20 = .ok (.iload_n 2, 1) := by decide +kernel
theorem dX12_isNarrow_21 : decode cX12_isNarrow 21 = .ok (.iadd, 1) := by decide +kernel
theorem dX12_isNarrow_22 : decode cX12_isNarrow 22 = .ok (.iaload, 1) := by decide +kernel
theorem dX12_isNarrow_23 : decode cX12_isNarrow 23 = .ok (.ifCond .le 28, 3) := by decide +kernel
theorem dX12_isNarrow_26 : decode cX12_isNarrow 26 = .ok (.aload_n 0, 1) := by decide +kernel
theorem dX12_isNarrow_27 : decode cX12_isNarrow 27 = .ok (.getfield 9, 3) := by decide +kernel
theorem dX12_isNarrow_30 : decode cX12_isNarrow 30 = .ok (.bipush 28, 2) := by decide +kernel
theorem dX12_isNarrow_32 : decode cX12_isNarrow 32 = .ok (.iload_n 2, 1) := by decide +kernel
theorem dX12_isNarrow_33 : decode cX12_isNarrow 33 = .ok (.iadd, 1) := by decide +kernel
theorem dX12_isNarrow_34 : decode cX12_isNarrow 34 = .ok (.iaload, 1) := by decide +kernel
theorem dX12_isNarrow_35 : decode cX12_isNarrow 35 = .ok (.aload_n 0, 1) := by decide +kernel
theorem dX12_isNarrow_36 : decode cX12_isNarrow 36 = .ok (.getfield 9, 3) := by decide +kernel
theorem dX12_isNarrow_39 : decode cX12_isNarrow 39 = .ok (.bipush 48, 2) := by decide +kernel
theorem dX12_isNarrow_41 : decode cX12_isNarrow 41 = .ok (.iload_n 1, 1) := by decide +kernel
theorem dX12_isNarrow_42 : decode cX12_isNarrow 42 = .ok (.iadd, 1) := by decide +kernel
theorem dX12_isNarrow_43 : decode cX12_isNarrow 43 = .ok (.iaload, 1) := by decide +kernel
theorem dX12_isNarrow_44 : decode cX12_isNarrow 44 = .ok (.if_icmp .ge 7, 3) := by decide +kernel
theorem dX12_isNarrow_47 : decode cX12_isNarrow 47 = .ok (.iconst 1, 1) := by decide +kernel
theorem dX12_isNarrow_48 : decode cX12_isNarrow 48 = .ok (.goto 4, 3) := by decide +kernel
theorem dX12_isNarrow_51 : decode cX12_isNarrow 51 = .ok (.iconst 0, 1) := by decide +kernel
theorem dX12_isNarrow_52 : decode cX12_isNarrow 52 = .ok (.ireturn, 1) := by decide +kernel
set_option maxRecDepth 20000 in
theorem ggX12_takes_X12_looks : GoodIn wsX12_takes wsX12_looks := goodIn_r _ [7, 8, 9, 10, 11, 1, 12, 13, 14, 15, 16, 6, 17, 18, 2, 19, 20, 21, 22, 23, 32, 33, 34, 35, 36, 37, 38, 39, 40, 41, 42, 43, 44, 45, 46, 47, 48, 49, 50, 51, 52, 53, 54, 55, 56, 57, 58, 59, 60, 61] (by decide +kernel) (by decide +kernel)
set_option maxRecDepth 20000 in
theorem gX12_takes_X12_looks : GoodIn wsX12_takes (wsV RX12 164 RX12 yX12_looks wsX12_looks) := goodIn_app (goodIn_of _ (by decide +kernel)) ggX12_takes_X12_looks
set_option maxRecDepth 20000 in
theorem ggX12_takes_X12_isOf : GoodIn wsX12_takes wsX12_isOf := goodIn_r _ [27, 2, 32, 33, 34, 35, 36, 37, 38, 39, 40, 41, 42, 43, 44, 45, 46, 47, 48, 49, 50, 51, 52, 53, 54, 55, 56, 57, 58, 59, 60, 61] (by decide +kernel) (by decide +kernel)
set_option maxRecDepth 20000 in
theorem gX12_takes_X12_isOf : GoodIn wsX12_takes (wsV RX12 167 RX12 yX12_isOf wsX12_isOf) := goodIn_app (goodIn_of _ (by decide +kernel)) ggX12_takes_X12_isOf
set_option maxRecDepth 20000 in
theorem ggX12_takes_X12_isNarrow : GoodIn wsX12_takes wsX12_isNarrow := goodIn_r _ [31, 2, 32, 33, 34, 35, 36, 37, 38, 39, 40, 41, 42, 43, 44, 45, 46, 47, 48, 49, 50, 51, 52, 53, 54, 55, 56, 57, 58, 59, 60, 61] (by decide +kernel) (by decide +kernel)
set_option maxRecDepth 20000 in
theorem gX12_takes_X12_isNarrow : GoodIn wsX12_takes (wsV RX12 170 RX12 yX12_isNarrow wsX12_isNarrow) := goodIn_app (goodIn_of _ (by decide +kernel)) ggX12_takes_X12_isNarrow
theorem dX12_takes_0 : decode cX12_takes 0 = .ok (.aload_n 0, 1) := by decide +kernel
theorem dX12_takes_1 : decode cX12_takes 1 = .ok (.iload_n 1, 1) := by decide +kernel
theorem dX12_takes_2 : decode cX12_takes 2 = .ok (.iload_n 2, 1) := by decide +kernel
theorem dX12_takes_3 : decode cX12_takes 3 = .ok (.iload_n 3, 1) := by decide +kernel
theorem dX12_takes_4 : decode cX12_takes 4 = .ok (.invokevirtual 164, 3) := by decide +kernel
theorem dX12_takes_7 : decode cX12_takes 7 = .ok (.iconst 2, 1) := by decide +kernel
theorem dX12_takes_8 : decode cX12_takes 8 = .ok (.aload_n 0, 1) := by decide +kernel
theorem dX12_takes_9 : decode cX12_takes 9 = .ok (.getfield 158, 3) := by decide +kernel
theorem dX12_takes_12 : decode cX12_takes 12 = .ok (.iadd, 1) := by decide +kernel
theorem dX12_takes_13 : decode cX12_takes 13 = .ok (.iconst 1, 1) := by decide +kernel
theorem dX12_takes_14 : decode cX12_takes 14 = .ok (.if_icmp .ge 7, 3) := by decide +kernel
theorem dX12_takes_17 : decode cX12_takes 17 = .ok (.iconst 1, 1) := by decide +kernel
theorem dX12_takes_18 : decode cX12_takes 18 = .ok (.goto 9, 3) := by decide +kernel
theorem dX12_takes_21 : decode cX12_takes 21 = .ok (.iconst 2, 1) := by decide +kernel
theorem dX12_takes_22 : decode cX12_takes 22 = .ok (.aload_n 0, 1) := by decide +kernel
theorem dX12_takes_23 : decode cX12_takes 23 = .ok (.getfield 158, 3) := by decide +kernel
theorem dX12_takes_26 : decode cX12_takes 26 = .ok (.iadd, 1) := by decide +kernel
theorem dX12_takes_27 : decode cX12_takes 27 = .ok (.istore 4, 2) := by decide +kernel
theorem dX12_takes_29 : decode cX12_takes 29 = .ok (.iload 4, 2) := by decide +kernel
theorem dX12_takes_31 : decode cX12_takes 31 = .ok (.aload_n 0, 1) := by decide +kernel
theorem dX12_takes_32 : decode cX12_takes 32 = .ok (.getfield 9, 3) := by decide +kernel
theorem dX12_takes_35 : decode cX12_takes 35 = .ok (.iconst 4, 1) := by decide +kernel
theorem dX12_takes_36 : decode cX12_takes 36 = .ok (.iload_n 1, 1) := by decide +kernel
theorem dX12_takes_37 : decode cX12_takes 37 = .ok (.iadd, 1) := by decide +kernel
theorem dX12_takes_38 : decode cX12_takes 38 = .ok (.iaload, 1) := by decide +kernel
theorem dX12_takes_39 : decode cX12_takes 39 = .ok (.bipush 10, 2) := by decide +kernel
theorem dX12_takes_41 : decode cX12_takes 41 = .ok (.idiv, 1) := by decide +kernel
theorem dX12_takes_42 : decode cX12_takes 42 = .ok (.iadd, 1) := by decide +kernel
theorem dX12_takes_43 : decode cX12_takes 43 = .ok (.istore 4, 2) := by decide +kernel
theorem dX12_takes_45 : decode cX12_takes 45 = .ok (.iload 4, 2) := by decide +kernel
theorem dX12_takes_47 : decode cX12_takes 47 = .ok (.aload_n 0, 1) := by decide +kernel
theorem dX12_takes_48 : decode cX12_takes 48 = .ok (.iload_n 1, 1) := by decide +kernel
theorem dX12_takes_49 : decode cX12_takes 49 = .ok (.iconst 3, 1) := by decide +kernel
theorem dX12_takes_50 : decode cX12_takes 50 = .ok (.bipush 6, 2) := by decide +kernel
theorem dX12_takes_52 : decode cX12_takes 52 = .ok (.invokevirtual 167, 3) := by decide +kernel
theorem dX12_takes_55 : decode cX12_takes 55 = .ok (.ifCond .eq 27, 3) := by decide +kernel
theorem dX12_takes_58 : decode cX12_takes 58 = .ok (.aload_n 0, 1) := by decide +kernel
theorem dX12_takes_59 : decode cX12_takes 59 = .ok (.getfield 9, 3) := by decide +kernel
theorem dX12_takes_62 : decode cX12_takes 62 = .ok (.iconst 4, 1) := by decide +kernel
theorem dX12_takes_63 : decode cX12_takes 63 = .ok (.iload_n 1, 1) := by decide +kernel
theorem dX12_takes_64 : decode cX12_takes 64 = .ok (.iadd, 1) := by decide +kernel
theorem dX12_takes_65 : decode cX12_takes 65 = .ok (.iaload, 1) := by decide +kernel
theorem dX12_takes_66 : decode cX12_takes 66 = .ok (.aload_n 0, 1) := by decide +kernel
theorem dX12_takes_67 : decode cX12_takes 67 = .ok (.getfield 9, 3) := by decide +kernel
theorem dX12_takes_70 : decode cX12_takes 70 = .ok (.bipush 48, 2) := by decide +kernel
theorem dX12_takes_72 : decode cX12_takes 72 = .ok (.iload_n 1, 1) := by decide +kernel
theorem dX12_takes_73 : decode cX12_takes 73 = .ok (.iadd, 1) := by decide +kernel
theorem dX12_takes_74 : decode cX12_takes 74 = .ok (.iaload, 1) := by decide +kernel
theorem dX12_takes_75 : decode cX12_takes 75 = .ok (.if_icmp .le 7, 3) := by decide +kernel
theorem dX12_takes_78 : decode cX12_takes 78 = .ok (.iconst 1, 1) := by decide +kernel
theorem dX12_takes_79 : decode cX12_takes 79 = .ok (.goto 4, 3) := by decide +kernel
theorem dX12_takes_82 : decode cX12_takes 82 = .ok (.iconst 0, 1) := by decide +kernel
theorem dX12_takes_83 : decode cX12_takes 83 = .ok (.iadd, 1) := by decide +kernel
theorem dX12_takes_84 : decode cX12_takes 84 = .ok (.istore 4, 2) := by decide +kernel
theorem dX12_takes_86 : decode cX12_takes 86 = .ok (.iload 4, 2) := by decide +kernel
theorem dX12_takes_88 : decode cX12_takes 88 = .ok (.aload_n 0, 1) := by decide +kernel
theorem dX12_takes_89 : decode cX12_takes 89 = .ok (.iload_n 1, 1) := by decide +kernel
theorem dX12_takes_90 : decode cX12_takes 90 = .ok (.iload_n 2, 1) := by decide +kernel
theorem dX12_takes_91 : decode cX12_takes 91 = .ok (.invokevirtual 170, 3) := by decide +kernel
theorem dX12_takes_94 : decode cX12_takes 94 = .ok (.ifCond .eq 8, 3) := by decide +kernel
theorem dX12_takes_97 : decode cX12_takes 97 = .ok (.bipush 20, 2) := by decide +kernel
theorem dX12_takes_99 : decode cX12_takes 99 = .ok (.goto 4, 3) := by decide +kernel
theorem dX12_takes_102 : decode cX12_takes 102 = .ok (.iconst 0, 1) := by decide +kernel
theorem dX12_takes_103 : decode cX12_takes 103 = .ok (.iadd, 1) := by decide +kernel
theorem dX12_takes_104 : decode cX12_takes 104 = .ok (.ireturn, 1) := by decide +kernel
set_option maxRecDepth 20000 in
theorem ggX12_lostIn_X12_looks : GoodIn wsX12_lostIn wsX12_looks := goodIn_r _ [7, 8, 9, 10, 11, 12, 13, 1, 14, 15, 16, 6, 17, 18, 2, 19, 20, 21, 22, 23, 24, 25, 26, 27, 28, 29, 30, 31, 32, 33, 34, 35, 36, 37, 38, 39, 40, 41, 42, 43, 44, 45, 46, 47, 48, 49, 50, 51, 52, 53] (by decide +kernel) (by decide +kernel)
set_option maxRecDepth 20000 in
theorem gX12_lostIn_X12_looks : GoodIn wsX12_lostIn (wsV RX12 164 RX12 yX12_looks wsX12_looks) := goodIn_app (goodIn_of _ (by decide +kernel)) ggX12_lostIn_X12_looks
theorem dX12_lostIn_0 : decode cX12_lostIn 0 = .ok (.aload_n 0, 1) := by decide +kernel
theorem dX12_lostIn_1 : decode cX12_lostIn 1 = .ok (.iload_n 1, 1) := by decide +kernel
theorem dX12_lostIn_2 : decode cX12_lostIn 2 = .ok (.iload_n 2, 1) := by decide +kernel
theorem dX12_lostIn_3 : decode cX12_lostIn 3 = .ok (.iload_n 3, 1) := by decide +kernel
theorem dX12_lostIn_4 : decode cX12_lostIn 4 = .ok (.invokevirtual 164, 3) := by decide +kernel
theorem dX12_lostIn_7 : decode cX12_lostIn 7 = .ok (.aload_n 0, 1) := by decide +kernel
theorem dX12_lostIn_8 : decode cX12_lostIn 8 = .ok (.getfield 161, 3) := by decide +kernel
theorem dX12_lostIn_11 : decode cX12_lostIn 11 = .ok (.istore 4, 2) := by decide +kernel
theorem dX12_lostIn_13 : decode cX12_lostIn 13 = .ok (.iload 4, 2) := by decide +kernel
theorem dX12_lostIn_15 : decode cX12_lostIn 15 = .ok (.aload_n 0, 1) := by decide +kernel
theorem dX12_lostIn_16 : decode cX12_lostIn 16 = .ok (.getfield 9, 3) := by decide +kernel
theorem dX12_lostIn_19 : decode cX12_lostIn 19 = .ok (.bipush 44, 2) := by decide +kernel
theorem dX12_lostIn_21 : decode cX12_lostIn 21 = .ok (.iload_n 1, 1) := by decide +kernel
theorem dX12_lostIn_22 : decode cX12_lostIn 22 = .ok (.iadd, 1) := by decide +kernel
theorem dX12_lostIn_23 : decode cX12_lostIn 23 = .ok (.iaload, 1) := by decide +kernel
theorem dX12_lostIn_24 : decode cX12_lostIn 24 = .ok (.iconst 4, 1) := by decide +kernel
theorem dX12_lostIn_25 : decode cX12_lostIn 25 = .ok (.if_icmp .ne 27, 3) := by decide +kernel
theorem dX12_lostIn_28 : decode cX12_lostIn 28 = .ok (.aload_n 0, 1) := by decide +kernel
theorem dX12_lostIn_29 : decode cX12_lostIn 29 = .ok (.getfield 9, 3) := by decide +kernel
theorem dX12_lostIn_32 : decode cX12_lostIn 32 = .ok (.bipush 28, 2) := by decide +kernel
theorem dX12_lostIn_34 : decode cX12_lostIn 34 = .ok (.iload_n 2, 1) := by decide +kernel
theorem dX12_lostIn_35 : decode cX12_lostIn 35 = .ok (.iadd, 1) := by decide +kernel
theorem dX12_lostIn_36 : decode cX12_lostIn 36 = .ok (.iaload, 1) := by decide +kernel
theorem dX12_lostIn_37 : decode cX12_lostIn 37 = .ok (.ifCond .le 15, 3) := by decide +kernel
theorem dX12_lostIn_40 : decode cX12_lostIn 40 = .ok (.aload_n 0, 1) := by decide +kernel
theorem dX12_lostIn_41 : decode cX12_lostIn 41 = .ok (.getfield 9, 3) := by decide +kernel
theorem dX12_lostIn_44 : decode cX12_lostIn 44 = .ok (.bipush 48, 2) := by decide +kernel
