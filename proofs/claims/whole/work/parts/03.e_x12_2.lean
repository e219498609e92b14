theorem dX12_lostIn_46 : decode cX12_lostIn 46 = .ok (.iload_n 1, 1) := by decide +kernel
theorem dX12_lostIn_47 : decode cX12_lostIn 47 = .ok (.iadd, 1) := by decide +kernel
theorem dX12_lostIn_48 : decode cX12_lostIn 48 = .ok (.iaload, 1) := by decide +kernel
theorem dX12_lostIn_49 : decode cX12_lostIn 49 = .ok (.goto 4, 3) := by decide +kernel
theorem dX12_lostIn_52 : decode cX12_lostIn 52 = .ok (.iconst 0, 1) := by decide +kernel
theorem dX12_lostIn_53 : decode cX12_lostIn 53 = .ok (.iadd, 1) := by decide +kernel
theorem dX12_lostIn_54 : decode cX12_lostIn 54 = .ok (.istore 4, 2) := by decide +kernel
theorem dX12_lostIn_56 : decode cX12_lostIn 56 = .ok (.iload 4, 2) := by decide +kernel
theorem dX12_lostIn_58 : decode cX12_lostIn 58 = .ok (.aload_n 0, 1) := by decide +kernel
theorem dX12_lostIn_59 : decode cX12_lostIn 59 = .ok (.getfield 9, 3) := by decide +kernel
theorem dX12_lostIn_62 : decode cX12_lostIn 62 = .ok (.bipush 44, 2) := by decide +kernel
theorem dX12_lostIn_64 : decode cX12_lostIn 64 = .ok (.iload_n 1, 1) := by decide +kernel
theorem dX12_lostIn_65 : decode cX12_lostIn 65 = .ok (.iadd, 1) := by decide +kernel
theorem dX12_lostIn_66 : decode cX12_lostIn 66 = .ok (.iaload, 1) := by decide +kernel
theorem dX12_lostIn_67 : decode cX12_lostIn 67 = .ok (.iconst 5, 1) := by decide +kernel
theorem dX12_lostIn_68 : decode cX12_lostIn 68 = .ok (.if_icmp .ne 20, 3) := by decide +kernel
theorem dX12_lostIn_71 : decode cX12_lostIn 71 = .ok (.iload_n 2, 1) := by decide +kernel
theorem dX12_lostIn_72 : decode cX12_lostIn 72 = .ok (.aload_n 0, 1) := by decide +kernel
theorem dX12_lostIn_73 : decode cX12_lostIn 73 = .ok (.getfield 9, 3) := by decide +kernel
theorem dX12_lostIn_76 : decode cX12_lostIn 76 = .ok (.bipush 48, 2) := by decide +kernel
theorem dX12_lostIn_78 : decode cX12_lostIn 78 = .ok (.iload_n 1, 1) := by decide +kernel
theorem dX12_lostIn_79 : decode cX12_lostIn 79 = .ok (.iadd, 1) := by decide +kernel
theorem dX12_lostIn_80 : decode cX12_lostIn 80 = .ok (.iaload, 1) := by decide +kernel
theorem dX12_lostIn_81 : decode cX12_lostIn 81 = .ok (.if_icmp .ne 7, 3) := by decide +kernel
theorem dX12_lostIn_84 : decode cX12_lostIn 84 = .ok (.iconst 1, 1) := by decide +kernel
theorem dX12_lostIn_85 : decode cX12_lostIn 85 = .ok (.goto 4, 3) := by decide +kernel
theorem dX12_lostIn_88 : decode cX12_lostIn 88 = .ok (.iconst 0, 1) := by decide +kernel
theorem dX12_lostIn_89 : decode cX12_lostIn 89 = .ok (.iadd, 1) := by decide +kernel
theorem dX12_lostIn_90 : decode cX12_lostIn 90 = .ok (.istore 4, 2) := by decide +kernel
theorem dX12_lostIn_92 : decode cX12_lostIn 92 = .ok (.iload 4, 2) := by decide +kernel
theorem dX12_lostIn_94 : decode cX12_lostIn 94 = .ok (.iload_n 3, 1) := by decide +kernel
theorem dX12_lostIn_95 : decode cX12_lostIn 95 = .ok (.if_icmp .le 7, 3) := by decide +kernel
theorem dX12_lostIn_98 : decode cX12_lostIn 98 = .ok (.iload_n 3, 1) := by decide +kernel
theorem dX12_lostIn_99 : decode cX12_lostIn 99 = .ok (.goto 5, 3) := by decide +kernel
theorem dX12_lostIn_102 : decode cX12_lostIn 102 = .ok (.iload 4, 2) := by decide +kernel
theorem dX12_lostIn_104 : decode cX12_lostIn 104 = .ok (.ireturn, 1) := by decide +kernel
set_option maxRecDepth 20000 in
theorem ggX12_comes_X12_isOf : GoodIn wsX12_comes wsX12_isOf := goodIn_r _ [6, 1, 7, 8, 9, 10, 11, 12, 13, 14, 15, 16, 17, 18, 19, 20, 21, 22, 23, 24, 25, 26, 27, 28, 29, 30, 31, 32, 33, 34, 35, 36] (by decide +kernel) (by decide +kernel)
set_option maxRecDepth 20000 in
theorem gX12_comes_X12_isOf : GoodIn wsX12_comes (wsV RX12 167 RX12 yX12_isOf wsX12_isOf) := goodIn_app (goodIn_of _ (by decide +kernel)) ggX12_comes_X12_isOf
theorem dX12_comes_0 : decode cX12_comes 0 = .ok (.iload_n 2, 1) := by decide +kernel
theorem dX12_comes_1 : decode cX12_comes 1 = .ok (.aload_n 0, 1) := by decide +kernel
theorem dX12_comes_2 : decode cX12_comes 2 = .ok (.iload_n 1, 1) := by decide +kernel
theorem dX12_comes_3 : decode cX12_comes 3 = .ok (.iconst 1, 1) := by decide +kernel
theorem dX12_comes_4 : decode cX12_comes 4 = .ok (.iconst 4, 1) := by decide +kernel
theorem dX12_comes_5 : decode cX12_comes 5 = .ok (.invokevirtual 167, 3) := by decide +kernel
theorem dX12_comes_8 : decode cX12_comes 8 = .ok (.ifCond .eq 15, 3) := by decide +kernel
theorem dX12_comes_11 : decode cX12_comes 11 = .ok (.aload_n 0, 1) := by decide +kernel
theorem dX12_comes_12 : decode cX12_comes 12 = .ok (.getfield 9, 3) := by decide +kernel
theorem dX12_comes_15 : decode cX12_comes 15 = .ok (.bipush 48, 2) := by decide +kernel
theorem dX12_comes_17 : decode cX12_comes 17 = .ok (.iload_n 1, 1) := by decide +kernel
theorem dX12_comes_18 : decode cX12_comes 18 = .ok (.iadd, 1) := by decide +kernel
theorem dX12_comes_19 : decode cX12_comes 19 = .ok (.iaload, 1) := by decide +kernel
theorem dX12_comes_20 : decode cX12_comes 20 = .ok (.goto 4, 3) := by decide +kernel
theorem dX12_comes_23 : decode cX12_comes 23 = .ok (.iconst 0, 1) := by decide +kernel
theorem dX12_comes_24 : decode cX12_comes 24 = .ok (.iadd, 1) := by decide +kernel
theorem dX12_comes_25 : decode cX12_comes 25 = .ok (.istore_n 3, 1) := by decide +kernel
theorem dX12_comes_26 : decode cX12_comes 26 = .ok (.iload_n 3, 1) := by decide +kernel
theorem dX12_comes_27 : decode cX12_comes 27 = .ok (.bipush 20, 2) := by decide +kernel
theorem dX12_comes_29 : decode cX12_comes 29 = .ok (.if_icmp .le 8, 3) := by decide +kernel
theorem dX12_comes_32 : decode cX12_comes 32 = .ok (.bipush 20, 2) := by decide +kernel
theorem dX12_comes_34 : decode cX12_comes 34 = .ok (.goto 4, 3) := by decide +kernel
theorem dX12_comes_37 : decode cX12_comes 37 = .ok (.iload_n 3, 1) := by decide +kernel
theorem dX12_comes_38 : decode cX12_comes 38 = .ok (.istore_n 3, 1) := by decide +kernel
theorem dX12_comes_39 : decode cX12_comes 39 = .ok (.iload_n 3, 1) := by decide +kernel
theorem dX12_comes_40 : decode cX12_comes 40 = .ok (.aload_n 0, 1) := by decide +kernel
theorem dX12_comes_41 : decode cX12_comes 41 = .ok (.getfield 9, 3) := by decide +kernel
theorem dX12_comes_44 : decode cX12_comes 44 = .ok (.iconst 0, 1) := by decide +kernel
theorem dX12_comes_45 : decode cX12_comes 45 = .ok (.iaload, 1) := by decide +kernel
theorem dX12_comes_46 : decode cX12_comes 46 = .ok (.if_icmp .le 12, 3) := by decide +kernel
theorem dX12_comes_49 : decode cX12_comes 49 = .ok (.aload_n 0, 1) := by decide +kernel
theorem dX12_comes_50 : decode cX12_comes 50 = .ok (.getfield 9, 3) := by decide +kernel
theorem dX12_comes_53 : decode cX12_comes 53 = .ok (.iconst 0, 1) := by decide +kernel
theorem dX12_comes_54 : decode cX12_comes 54 = .ok (.iaload, 1) := by decide +kernel
theorem dX12_comes_55 : decode cX12_comes 55 = .ok (.goto 4, 3) := by decide +kernel
theorem dX12_comes_58 : decode cX12_comes 58 = .ok (.iload_n 3, 1) := by decide +kernel
theorem dX12_comes_59 : decode cX12_comes 59 = .ok (.ireturn, 1) := by decide +kernel
theorem dX12_softens_0 : decode cX12_softens 0 = .ok (.aload_n 0, 1) := by decide +kernel
theorem dX12_softens_1 : decode cX12_softens 1 = .ok (.dup, 1) := by decide +kernel
theorem dX12_softens_2 : decode cX12_softens 2 = .ok (.getfield 37, 3) := by decide +kernel
theorem dX12_softens_5 : decode cX12_softens 5 = .ok (.iconst 1, 1) := by decide +kernel
theorem dX12_softens_6 : decode cX12_softens 6 = .ok (.iadd, 1) := by decide +kernel
theorem dX12_softens_7 : decode cX12_softens 7 = .ok (.putfield 37, 3) := by decide +kernel
theorem dX12_softens_10 : decode cX12_softens 10 = .ok (.iconst 0, 1) := by decide +kernel
theorem dX12_softens_11 : decode cX12_softens 11 = .ok (.istore_n 1, 1) := by decide +kernel
theorem dX12_softens_12 : decode cX12_softens 12 = .ok (.iload_n 1, 1) := by decide +kernel
theorem dX12_softens_13 : decode cX12_softens 13 = .ok (.bipush 10, 2) := by decide +kernel
theorem dX12_softens_15 : decode cX12_softens 15 = .ok (.if_icmp .ge 52, 3) := by decide +kernel
theorem dX12_softens_18 : decode cX12_softens 18 = .ok (.aload_n 0, 1) := by decide +kernel
theorem dX12_softens_19 : decode cX12_softens 19 = .ok (.getfield 9, 3) := by decide +kernel
theorem dX12_softens_22 : decode cX12_softens 22 = .ok (.bipush 8, 2) := by decide +kernel
theorem dX12_softens_24 : decode cX12_softens 24 = .ok (.iload_n 1, 1) := by decide +kernel
theorem dX12_softens_25 : decode cX12_softens 25 = .ok (.iadd, 1) := by decide +kernel
theorem dX12_softens_26 : decode cX12_softens 26 = .ok (.dup2, 1) := by decide +kernel
theorem dX12_softens_27 : decode cX12_softens 27 = .ok (.iaload, 1) := by decide +kernel
theorem dX12_softens_28 : decode cX12_softens 28 = .ok (.aload_n 0, 1) := by decide +kernel
theorem dX12_softens_29 : decode cX12_softens 29 = .ok (.getfield 9, 3) := by decide +kernel
theorem dX12_softens_32 : decode cX12_softens 32 = .ok (.bipush 28, 2) := by decide +kernel
theorem dX12_softens_34 : decode cX12_softens 34 = .ok (.iload_n 1, 1) := by decide +kernel
theorem dX12_softens_35 : decode cX12_softens 35 = .ok (.iadd, 1) := by decide +kernel
theorem dX12_softens_36 : decode cX12_softens 36 = .ok (.iaload, 1) := by decide +kernel
theorem dX12_softens_37 : decode cX12_softens 37 = .ok (.ifCond .ne 21, 3) := by decide +kernel
theorem dX12_softens_40 : decode cX12_softens 40 = .ok (.aload_n 0, 1) := by decide +kernel
theorem dX12_softens_41 : decode cX12_softens 41 = .ok (.getfield 9, 3) := by decide +kernel
theorem dX12_softens_44 : decode cX12_softens 44 = .ok (.bipush 8, 2) := by decide +kernel
theorem dX12_softens_46 : decode cX12_softens 46 = .ok (.iload_n 1, 1) := by decide +kernel
theorem dX12_softens_47 : decode cX12_softens 47 = .ok (.iadd, 1) := by decide +kernel
theorem dX12_softens_48 : decode cX12_softens 48 = .ok (.iaload, 1) := by decide +kernel
theorem dX12_softens_49 : decode cX12_softens 49 = .ok (.bipush 9, 2) := by decide +kernel
theorem dX12_softens_51 : decode cX12_softens 51 = .ok (.if_icmp .ge 7, 3) := by decide +kernel
theorem dX12_softens_54 : decode cX12_softens 54 = .ok (.iconst 1, 1) := by decide +kernel
theorem dX12_softens_55 : decode cX12_softens 55 = .ok (.goto 4, 3) := by decide +kernel
theorem dX12_softens_58 : decode cX12_softens 58 = .ok (.iconst 0, 1) := by decide +kernel
theorem dX12_softens_59 : decode cX12_softens 59 = .ok (.iadd, 1) := by decide +kernel
theorem dX12_softens_60 : decode cX12_softens 60 = .ok (.iastore, 1) := by decide +kernel
theorem dX12_softens_61 : decode cX12_softens 61 = .ok (.iinc 1 1, 3) := by decide +kernel
theorem dX12_softens_64 : decode cX12_softens 64 = .ok (.goto (-52), 3) := by decide +kernel
theorem dX12_softens_67 : decode cX12_softens 67 = .ok (.return_, 1) := by decide +kernel
set_option maxRecDepth 20000 in
theorem ggX12_tires_X12_told : GoodIn wsX12_tires wsX12_told := goodIn_r _ [7, 1, 8, 9, 10, 6, 11, 12, 13, 14, 15, 16, 17, 18, 19, 20, 21, 22, 23, 24, 25, 26, 27, 28, 29, 30, 31, 32, 33, 34, 35, 36, 37, 38, 39, 40, 41, 42, 43, 44] (by decide +kernel) (by decide +kernel)
set_option maxRecDepth 20000 in
theorem gX12_tires_X12_told : GoodIn wsX12_tires (wsV RX12 177 RX12 yX12_told wsX12_told) := goodIn_app (goodIn_of _ (by decide +kernel)) ggX12_tires_X12_told
theorem dX12_tires_0 : decode cX12_tires 0 = .ok (.aload_n 0, 1) := by decide +kernel
theorem dX12_tires_1 : decode cX12_tires 1 = .ok (.getfield 9, 3) := by decide +kernel
theorem dX12_tires_4 : decode cX12_tires 4 = .ok (.iconst 4, 1) := by decide +kernel
theorem dX12_tires_5 : decode cX12_tires 5 = .ok (.iload_n 1, 1) := by decide +kernel
theorem dX12_tires_6 : decode cX12_tires 6 = .ok (.iadd, 1) := by decide +kernel
theorem dX12_tires_7 : decode cX12_tires 7 = .ok (.iaload, 1) := by decide +kernel
theorem dX12_tires_8 : decode cX12_tires 8 = .ok (.aload_n 0, 1) := by decide +kernel
theorem dX12_tires_9 : decode cX12_tires 9 = .ok (.getfield 174, 3) := by decide +kernel
theorem dX12_tires_12 : decode cX12_tires 12 = .ok (.aload_n 0, 1) := by decide +kernel
theorem dX12_tires_13 : decode cX12_tires 13 = .ok (.getfield 9, 3) := by decide +kernel
theorem dX12_tires_16 : decode cX12_tires 16 = .ok (.bipush 52, 2) := by decide +kernel
theorem dX12_tires_18 : decode cX12_tires 18 = .ok (.iload_n 1, 1) := by decide +kernel
theorem dX12_tires_19 : decode cX12_tires 19 = .ok (.iadd, 1) := by decide +kernel
theorem dX12_tires_20 : decode cX12_tires 20 = .ok (.iaload, 1) := by decide +kernel
theorem dX12_tires_21 : decode cX12_tires 21 = .ok (.if_icmp .le 11, 3) := by decide +kernel
theorem dX12_tires_24 : decode cX12_tires 24 = .ok (.aload_n 0, 1) := by decide +kernel
theorem dX12_tires_25 : decode cX12_tires 25 = .ok (.iconst 4, 1) := by decide +kernel
theorem dX12_tires_26 : decode cX12_tires 26 = .ok (.invokevirtual 177, 3) := by decide +kernel
theorem dX12_tires_29 : decode cX12_tires 29 = .ok (.goto 4, 3) := by decide +kernel
theorem dX12_tires_32 : decode cX12_tires 32 = .ok (.iconst (-1), 1) := by decide +kernel
theorem dX12_tires_33 : decode cX12_tires 33 = .ok (.iadd, 1) := by decide +kernel
theorem dX12_tires_34 : decode cX12_tires 34 = .ok (.istore_n 2, 1) := by decide +kernel
theorem dX12_tires_35 : decode cX12_tires 35 = .ok (.aload_n 0, 1) := by decide +kernel
theorem dX12_tires_36 : decode cX12_tires 36 = .ok (.getfield 9, 3) := by decide +kernel
theorem dX12_tires_39 : decode cX12_tires 39 = .ok (.iconst 4, 1) := by decide +kernel
theorem dX12_tires_40 : decode cX12_tires 40 = .ok (.iload_n 1, 1) := by decide +kernel
theorem dX12_tires_41 : decode cX12_tires 41 = .ok (.iadd, 1) := by decide +kernel
theorem dX12_tires_42 : decode cX12_tires 42 = .ok (.iload_n 2, 1) := by decide +kernel
theorem dX12_tires_43 : decode cX12_tires 43 = .ok (.ifCond .ge 7, 3) := by decide +kernel
theorem dX12_tires_46 : decode cX12_tires 46 = .ok (.iconst 0, 1) := by decide +kernel
theorem dX12_tires_47 : decode cX12_tires 47 = .ok (.goto 15, 3) := by decide +kernel
theorem dX12_tires_50 : decode cX12_tires 50 = .ok (.iload_n 2, 1) := by decide +kernel
theorem dX12_tires_51 : decode cX12_tires 51 = .ok (.bipush 99, 2) := by decide +kernel
theorem dX12_tires_53 : decode cX12_tires 53 = .ok (.if_icmp .le 8, 3) := by decide +kernel
theorem dX12_tires_56 : decode cX12_tires 56 = .ok (.bipush 99, 2) := by decide +kernel
theorem dX12_tires_58 : decode cX12_tires 58 = .ok (.goto 4, 3) := by decide +kernel
theorem dX12_tires_61 : decode cX12_tires 61 = .ok (.iload_n 2, 1) := by decide +kernel
theorem dX12_tires_62 : decode cX12_tires 62 = .ok (.iastore, 1) := by decide +kernel
theorem dX12_tires_63 : decode cX12_tires 63 = .ok (.return_, 1) := by decide +kernel
set_option maxRecDepth 20000 in
theorem ggX12_goes_X12_comes : GoodIn wsX12_goes wsX12_comes := goodIn_r _ [10, 2, 11, 12, 13, 9, 14, 63, 64, 65, 66, 67, 68, 69, 70, 71, 72, 73, 74, 75, 76, 77, 78, 79, 80, 81, 82, 83, 84, 85, 86, 87, 88, 89, 90, 91, 92] (by decide +kernel) (by decide +kernel)
set_option maxRecDepth 20000 in
theorem gX12_goes_X12_comes : GoodIn wsX12_goes (wsV RX12 181 RX12 yX12_comes wsX12_comes) := goodIn_app (goodIn_of _ (by decide +kernel)) ggX12_goes_X12_comes
set_option maxRecDepth 20000 in
theorem ggX12_goes_X12_told : GoodIn wsX12_goes wsX12_told := goodIn_r _ [18, 2, 19, 20, 21, 9, 22, 23, 24, 25, 63, 64, 65, 66, 67, 68, 69, 70, 71, 72, 73, 74, 75, 76, 77, 78, 79, 80, 81, 82, 83, 84, 85, 86, 87, 88, 89, 90, 91, 92] (by decide +kernel) (by decide +kernel)
set_option maxRecDepth 20000 in
theorem gX12_goes_X12_told : GoodIn wsX12_goes (wsV RX12 177 RX12 yX12_told wsX12_told) := goodIn_app (goodIn_of _ (by decide +kernel)) ggX12_goes_X12_told
set_option maxRecDepth 20000 in
theorem ggX12_goes_X12_isOf : GoodIn wsX12_goes wsX12_isOf := goodIn_r _ [14, 2, 63, 64, 65, 66, 67, 68, 69, 70, 71, 72, 73, 74, 75, 76, 77, 78, 79, 80, 81, 82, 83, 84, 85, 86, 87, 88, 89, 90, 91, 92] (by decide +kernel) (by decide +kernel)
set_option maxRecDepth 20000 in
theorem gX12_goes_X12_isOf : GoodIn wsX12_goes (wsV RX12 167 RX12 yX12_isOf wsX12_isOf) := goodIn_app (goodIn_of _ (by decide +kernel)) ggX12_goes_X12_isOf
set_option maxRecDepth 20000 in
theorem ggX12_goes_X12_takes : GoodIn wsX12_goes wsX12_takes := goodIn_r _ [29, 30, 2, 31, 32, 33, 9, 34, 35, 36, 37, 38, 39, 40, 41, 42, 43, 44, 45, 46, 19, 20, 21, 22, 11, 12, 13, 14, 47, 48, 49, 50, 63, 64, 65, 66, 67, 68, 69, 70, 71, 72, 73, 74, 75, 76, 77, 78, 79, 80, 81, 82, 83, 84, 85, 86, 87, 88, 89, 90, 91, 92] (by decide +kernel) (by decide +kernel)
set_option maxRecDepth 20000 in
theorem gX12_goes_X12_takes : GoodIn wsX12_goes (wsV RX12 190 RX12 yX12_takes wsX12_takes) := goodIn_app (goodIn_of _ (by decide +kernel)) ggX12_goes_X12_takes
set_option maxRecDepth 20000 in
theorem ggX12_goes_X12_lostIn : GoodIn wsX12_goes wsX12_lostIn := goodIn_r _ [54, 40, 2, 31, 32, 33, 9, 34, 35, 36, 37, 38, 30, 39, 41, 42, 43, 44, 45, 46, 19, 20, 21, 22, 63, 64, 65, 66, 67, 68, 69, 70, 71, 72, 73, 74, 75, 76, 77, 78, 79, 80, 81, 82, 83, 84, 85, 86, 87, 88, 89, 90, 91, 92] (by decide +kernel) (by decide +kernel)
set_option maxRecDepth 20000 in
theorem gX12_goes_X12_lostIn : GoodIn wsX12_goes (wsV RX12 194 RX12 yX12_lostIn wsX12_lostIn) := goodIn_app (goodIn_of _ (by decide +kernel)) ggX12_goes_X12_lostIn
set_option maxRecDepth 20000 in
theorem ggX12_goes_X12_isNarrow : GoodIn wsX12_goes wsX12_isNarrow := goodIn_r _ [50, 2, 63, 64, 65, 66, 67, 68, 69, 70, 71, 72, 73, 74, 75, 76, 77, 78, 79, 80, 81, 82, 83, 84, 85, 86, 87, 88, 89, 90, 91, 92] (by decide +kernel) (by decide +kernel)
set_option maxRecDepth 20000 in
theorem gX12_goes_X12_isNarrow : GoodIn wsX12_goes (wsV RX12 170 RX12 yX12_isNarrow wsX12_isNarrow) := goodIn_app (goodIn_of _ (by decide +kernel)) ggX12_goes_X12_isNarrow
set_option maxRecDepth 20000 in
theorem ggX12_goes_X12_tires : GoodIn wsX12_goes wsX12_tires := goodIn_r _ [58, 2, 1, 15, 16, 17, 9, 18, 19, 20, 21, 22, 23, 24, 25, 63, 64, 65, 66, 67, 68, 69, 70, 71, 72, 73, 74, 75, 76, 77, 78, 79, 80, 81, 82, 83, 84, 85, 86, 87, 88, 89, 90, 91, 92] (by decide +kernel) (by decide +kernel)
set_option maxRecDepth 20000 in
theorem gX12_goes_X12_tires : GoodIn wsX12_goes (wsV RX12 200 RX12 yX12_tires wsX12_tires) := goodIn_app (goodIn_of _ (by decide +kernel)) ggX12_goes_X12_tires
set_option maxRecDepth 20000 in
theorem ggX12_goes_X12_softens : GoodIn wsX12_goes wsX12_softens := goodIn_r _ [62, 35, 2, 63, 64, 65, 66, 67, 68, 69, 70, 71, 72, 73, 74, 75, 76, 77, 78, 79, 80, 81, 82, 83, 84, 85, 86, 87, 88, 89, 90, 91, 92] (by decide +kernel) (by decide +kernel)
set_option maxRecDepth 20000 in
theorem gX12_goes_X12_softens : GoodIn wsX12_goes (wsV RX12 203 RX12 yX12_softens wsX12_softens) := goodIn_app (goodIn_of _ (by decide +kernel)) ggX12_goes_X12_softens
theorem dX12_goes_0 : decode cX12_goes 0 = .ok (.aload_n 0, 1) := by decide +kernel
theorem dX12_goes_1 : decode cX12_goes 1 = .ok (.aload_n 0, 1) := by decide +kernel
theorem dX12_goes_2 : decode cX12_goes 2 = .ok (.iload_n 1, 1) := by decide +kernel
theorem dX12_goes_3 : decode cX12_goes 3 = .ok (.iload_n 2, 1) := by decide +kernel
theorem dX12_goes_4 : decode cX12_goes 4 = .ok (.invokevirtual 181, 3) := by decide +kernel
theorem dX12_goes_7 : decode cX12_goes 7 = .ok (.putfield 174, 3) := by decide +kernel
theorem dX12_goes_10 : decode cX12_goes 10 = .ok (.aload_n 0, 1) := by decide +kernel
theorem dX12_goes_11 : decode cX12_goes 11 = .ok (.aload_n 0, 1) := by decide +kernel
theorem dX12_goes_12 : decode cX12_goes 12 = .ok (.iconst 5, 1) := by decide +kernel
theorem dX12_goes_13 : decode cX12_goes 13 = .ok (.invokevirtual 177, 3) := by decide +kernel
theorem dX12_goes_16 : decode cX12_goes 16 = .ok (.aload_n 0, 1) := by decide +kernel
theorem dX12_goes_17 : decode cX12_goes 17 = .ok (.getfield 174, 3) := by decide +kernel
theorem dX12_goes_20 : decode cX12_goes 20 = .ok (.imul, 1) := by decide +kernel
theorem dX12_goes_21 : decode cX12_goes 21 = .ok (.aload_n 0, 1) := by decide +kernel
theorem dX12_goes_22 : decode cX12_goes 22 = .ok (.iload_n 1, 1) := by decide +kernel
theorem dX12_goes_23 : decode cX12_goes 23 = .ok (.iconst 2, 1) := by decide +kernel
theorem dX12_goes_24 : decode cX12_goes 24 = .ok (.iconst 5, 1) := by decide +kernel
theorem dX12_goes_25 : decode cX12_goes 25 = .ok (.invokevirtual 167, 3) := by decide +kernel
theorem dX12_goes_28 : decode cX12_goes 28 = .ok (.ifCond .eq 15, 3) := by decide +kernel
theorem dX12_goes_31 : decode cX12_goes 31 = .ok (.aload_n 0, 1) := by decide +kernel
theorem dX12_goes_32 : decode cX12_goes 32 = .ok (.getfield 9, 3) := by decide +kernel
theorem dX12_goes_35 : decode cX12_goes 35 = .ok (.bipush 48, 2) := by decide +kernel
theorem dX12_goes_37 : decode cX12_goes 37 = .ok (.iload_n 1, 1) := by decide +kernel
theorem dX12_goes_38 : decode cX12_goes 38 = .ok (.iadd, 1) := by decide +kernel
theorem dX12_goes_39 : decode cX12_goes 39 = .ok (.iaload, 1) := by decide +kernel
theorem dX12_goes_40 : decode cX12_goes 40 = .ok (.goto 4, 3) := by decide +kernel
theorem dX12_goes_43 : decode cX12_goes 43 = .ok (.iconst 0, 1) := by decide +kernel
theorem dX12_goes_44 : decode cX12_goes 44 = .ok (.iadd, 1) := by decide +kernel
theorem dX12_goes_45 : decode cX12_goes 45 = .ok (.putfield 184, 3) := by decide +kernel
theorem dX12_goes_48 : decode cX12_goes 48 = .ok (.aload_n 0, 1) := by decide +kernel
theorem dX12_goes_49 : decode cX12_goes 49 = .ok (.aload_n 0, 1) := by decide +kernel
theorem dX12_goes_50 : decode cX12_goes 50 = .ok (.getfield 184, 3) := by decide +kernel
theorem dX12_goes_53 : decode cX12_goes 53 = .ok (.putfield 187, 3) := by decide +kernel
theorem dX12_goes_56 : decode cX12_goes 56 = .ok (.aload_n 0, 1) := by decide +kernel
theorem dX12_goes_57 : decode cX12_goes 57 = .ok (.getfield 174, 3) := by decide +kernel
theorem dX12_goes_60 : decode cX12_goes 60 = .ok (.istore_n 3, 1) := by decide +kernel
theorem dX12_goes_61 : decode cX12_goes 61 = .ok (.iconst 0, 1) := by decide +kernel
theorem dX12_goes_62 : decode cX12_goes 62 = .ok (.istore 4, 2) := by decide +kernel
theorem dX12_goes_64 : decode cX12_goes 64 = .ok (.iload 4, 2) := by decide +kernel
theorem dX12_goes_66 : decode cX12_goes 66 = .ok (.bipush 10, 2) := by decide +kernel
theorem dX12_goes_68 : decode cX12_goes 68 = .ok (.if_icmp .ge 57, 3) := by decide +kernel
theorem dX12_goes_71 : decode cX12_goes 71 = .ok (.aload_n 0, 1) := by decide +kernel
theorem dX12_goes_72 : decode cX12_goes 72 = .ok (.dup, 1) := by decide +kernel
theorem dX12_goes_73 : decode cX12_goes 73 = .ok (.getfield 187, 3) := by decide +kernel
theorem dX12_goes_76 : decode cX12_goes 76 = .ok (.aload_n 0, 1) := by decide +kernel
theorem dX12_goes_77 : decode cX12_goes 77 = .ok (.iload_n 1, 1) := by decide +kernel
theorem dX12_goes_78 : decode cX12_goes 78 = .ok (.iload 4, 2) := by decide +kernel
theorem dX12_goes_80 : decode cX12_goes 80 = .ok (.iload_n 3, 1) := by decide +kernel
theorem dX12_goes_81 : decode cX12_goes 81 = .ok (.invokevirtual 190, 3) := by decide +kernel
theorem dX12_goes_84 : decode cX12_goes 84 = .ok (.iadd, 1) := by decide +kernel
theorem dX12_goes_85 : decode cX12_goes 85 = .ok (.putfield 187, 3) := by decide +kernel
theorem dX12_goes_88 : decode cX12_goes 88 = .ok (.iload_n 3, 1) := by decide +kernel
theorem dX12_goes_89 : decode cX12_goes 89 = .ok (.aload_n 0, 1) := by decide +kernel
theorem dX12_goes_90 : decode cX12_goes 90 = .ok (.iload_n 1, 1) := by decide +kernel
theorem dX12_goes_91 : decode cX12_goes 91 = .ok (.iload 4, 2) := by decide +kernel
theorem dX12_goes_93 : decode cX12_goes 93 = .ok (.iload_n 3, 1) := by decide +kernel
theorem dX12_goes_94 : decode cX12_goes 94 = .ok (.invokevirtual 194, 3) := by decide +kernel
theorem dX12_goes_97 : decode cX12_goes 97 = .ok (.isub, 1) := by decide +kernel
theorem dX12_goes_98 : decode cX12_goes 98 = .ok (.istore_n 3, 1) := by decide +kernel
theorem dX12_goes_99 : decode cX12_goes 99 = .ok (.iload_n 3, 1) := by decide +kernel
theorem dX12_goes_100 : decode cX12_goes 100 = .ok (.aload_n 0, 1) := by decide +kernel
theorem dX12_goes_101 : decode cX12_goes 101 = .ok (.iload_n 1, 1) := by decide +kernel
theorem dX12_goes_102 : decode cX12_goes 102 = .ok (.iload 4, 2) := by decide +kernel
theorem dX12_goes_104 : decode cX12_goes 104 = .ok (.invokevirtual 170, 3) := by decide +kernel
theorem dX12_goes_107 : decode cX12_goes 107 = .ok (.ifCond .eq 9, 3) := by decide +kernel
theorem dX12_goes_110 : decode cX12_goes 110 = .ok (.iload_n 3, 1) := by decide +kernel
theorem dX12_goes_111 : decode cX12_goes 111 = .ok (.iconst 2, 1) := by decide +kernel
theorem dX12_goes_112 : decode cX12_goes 112 = .ok (.idiv, 1) := by decide +kernel
theorem dX12_goes_113 : decode cX12_goes 113 = .ok (.goto 4, 3) := by decide +kernel
theorem dX12_goes_116 : decode cX12_goes 116 = .ok (.iconst 0, 1) := by decide +kernel
theorem dX12_goes_117 : decode cX12_goes 117 = .ok (.isub, 1) := by decide +kernel
theorem dX12_goes_118 : decode cX12_goes 118 = .ok (.istore_n 3, 1) := by decide +kernel
theorem dX12_goes_119 : decode cX12_goes 119 = .ok (.iinc 4 1, 3) := by decide +kernel
theorem dX12_goes_122 : decode cX12_goes 122 = .ok (.goto (-58), 3) := by decide +kernel
theorem dX12_goes_125 : decode cX12_goes 125 = .ok (.bipush 9, 2) := by decide +kernel
theorem dX12_goes_127 : decode cX12_goes 127 = .ok (.istore 4, 2) := by decide +kernel
theorem dX12_goes_129 : decode cX12_goes 129 = .ok (.iload 4, 2) := by decide +kernel
theorem dX12_goes_131 : decode cX12_goes 131 = .ok (.ifCond .lt 26, 3) := by decide +kernel
theorem dX12_goes_134 : decode cX12_goes 134 = .ok (.aload_n 0, 1) := by decide +kernel
theorem dX12_goes_135 : decode cX12_goes 135 = .ok (.dup, 1) := by decide +kernel
theorem dX12_goes_136 : decode cX12_goes 136 = .ok (.getfield 187, 3) := by decide +kernel
theorem dX12_goes_139 : decode cX12_goes 139 = .ok (.aload_n 0, 1) := by decide +kernel
theorem dX12_goes_140 : decode cX12_goes 140 = .ok (.iload_n 1, 1) := by decide +kernel
theorem dX12_goes_141 : decode cX12_goes 141 = .ok (.iload 4, 2) := by decide +kernel
theorem dX12_goes_143 : decode cX12_goes 143 = .ok (.iconst 0, 1) := by decide +kernel
theorem dX12_goes_144 : decode cX12_goes 144 = .ok (.invokevirtual 190, 3) := by decide +kernel
theorem dX12_goes_147 : decode cX12_goes 147 = .ok (.iadd, 1) := by decide +kernel
theorem dX12_goes_148 : decode cX12_goes 148 = .ok (.putfield 187, 3) := by decide +kernel
theorem dX12_goes_151 : decode cX12_goes 151 = .ok (.iinc 4 (-1), 3) := by decide +kernel
theorem dX12_goes_154 : decode cX12_goes 154 = .ok (.goto (-25), 3) := by decide +kernel
theorem dX12_goes_157 : decode cX12_goes 157 = .ok (.aload_n 0, 1) := by decide +kernel
theorem dX12_goes_158 : decode cX12_goes 158 = .ok (.iload_n 3, 1) := by decide +kernel
theorem dX12_goes_159 : decode cX12_goes 159 = .ok (.putfield 197, 3) := by decide +kernel
theorem dX12_goes_162 : decode cX12_goes 162 = .ok (.aload_n 0, 1) := by decide +kernel
theorem dX12_goes_163 : decode cX12_goes 163 = .ok (.getfield 9, 3) := by decide +kernel
theorem dX12_goes_166 : decode cX12_goes 166 = .ok (.iconst 1, 1) := by decide +kernel
theorem dX12_goes_167 : decode cX12_goes 167 = .ok (.dup2, 1) := by decide +kernel
theorem dX12_goes_168 : decode cX12_goes 168 = .ok (.iaload, 1) := by decide +kernel
theorem dX12_goes_169 : decode cX12_goes 169 = .ok (.iload_n 3, 1) := by decide +kernel
theorem dX12_goes_170 : decode cX12_goes 170 = .ok (.iadd, 1) := by decide +kernel
theorem dX12_goes_171 : decode cX12_goes 171 = .ok (.iastore, 1) := by decide +kernel
theorem dX12_goes_172 : decode cX12_goes 172 = .ok (.aload_n 0, 1) := by decide +kernel
theorem dX12_goes_173 : decode cX12_goes 173 = .ok (.getfield 9, 3) := by decide +kernel
theorem dX12_goes_176 : decode cX12_goes 176 = .ok (.iconst 0, 1) := by decide +kernel
theorem dX12_goes_177 : decode cX12_goes 177 = .ok (.dup2, 1) := by decide +kernel
theorem dX12_goes_178 : decode cX12_goes 178 = .ok (.iaload, 1) := by decide +kernel
theorem dX12_goes_179 : decode cX12_goes 179 = .ok (.aload_n 0, 1) := by decide +kernel
theorem dX12_goes_180 : decode cX12_goes 180 = .ok (.getfield 174, 3) := by decide +kernel
theorem dX12_goes_183 : decode cX12_goes 183 = .ok (.isub, 1) := by decide +kernel
theorem dX12_goes_184 : decode cX12_goes 184 = .ok (.iastore, 1) := by decide +kernel
theorem dX12_goes_185 : decode cX12_goes 185 = .ok (.aload_n 0, 1) := by decide +kernel
theorem dX12_goes_186 : decode cX12_goes 186 = .ok (.iload_n 1, 1) := by decide +kernel
theorem dX12_goes_187 : decode cX12_goes 187 = .ok (.invokevirtual 200, 3) := by decide +kernel
theorem dX12_goes_190 : decode cX12_goes 190 = .ok (.aload_n 0, 1) := by decide +kernel
theorem dX12_goes_191 : decode cX12_goes 191 = .ok (.getfield 9, 3) := by decide +kernel
theorem dX12_goes_194 : decode cX12_goes 194 = .ok (.iconst 3, 1) := by decide +kernel
theorem dX12_goes_195 : decode cX12_goes 195 = .ok (.dup2, 1) := by decide +kernel
theorem dX12_goes_196 : decode cX12_goes 196 = .ok (.iaload, 1) := by decide +kernel
theorem dX12_goes_197 : decode cX12_goes 197 = .ok (.iconst 1, 1) := by decide +kernel
theorem dX12_goes_198 : decode cX12_goes 198 = .ok (.iadd, 1) := by decide +kernel
theorem dX12_goes_199 : decode cX12_goes 199 = .ok (.iastore, 1) := by decide +kernel
theorem dX12_goes_200 : decode cX12_goes 200 = .ok (.aload_n 0, 1) := by decide +kernel
theorem dX12_goes_201 : decode cX12_goes 201 = .ok (.getfield 9, 3) := by decide +kernel
theorem dX12_goes_204 : decode cX12_goes 204 = .ok (.iconst 3, 1) := by decide +kernel
theorem dX12_goes_205 : decode cX12_goes 205 = .ok (.iaload, 1) := by decide +kernel
theorem dX12_goes_206 : decode cX12_goes 206 = .ok (.iconst 3, 1) := by decide +kernel
theorem dX12_goes_207 : decode cX12_goes 207 = .ok (.irem, 1) := by decide +kernel
theorem dX12_goes_208 : decode cX12_goes 208 = .ok (.ifCond .ne 7, 3) := by decide +kernel
theorem dX12_goes_211 : decode cX12_goes 211 = .ok (.aload_n 0, 1) := by decide +kernel
theorem dX12_goes_212 : decode cX12_goes 212 = .ok (.invokevirtual 203, 3) := by decide +kernel
theorem dX12_goes_215 : decode cX12_goes 215 = .ok (.aload_n 0, 1) := by decide +kernel
theorem dX12_goes_216 : decode cX12_goes 216 = .ok (.getfield 9, 3) := by decide +kernel
theorem dX12_goes_219 : decode cX12_goes 219 = .ok (.iconst 2, 1) := by decide +kernel
theorem dX12_goes_220 : decode cX12_goes 220 = .ok (.dup2, 1) := by decide +kernel
theorem dX12_goes_221 : decode cX12_goes 221 = .ok (.iaload, 1) := by decide +kernel
theorem dX12_goes_222 : decode cX12_goes 222 = .ok (.aload_n 0, 1) := by decide +kernel
theorem dX12_goes_223 : decode cX12_goes 223 = .ok (.getfield 187, 3) := by decide +kernel
theorem dX12_goes_226 : decode cX12_goes 226 = .ok (.iadd, 1) := by decide +kernel
theorem dX12_goes_227 : decode cX12_goes 227 = .ok (.iastore, 1) := by decide +kernel
theorem dX12_goes_228 : decode cX12_goes 228 = .ok (.return_, 1) := by decide +kernel
set_option maxRecDepth 20000 in
theorem ggX12_round_X12_isMan : GoodIn wsX12_round wsX12_isMan := goodIn_r _ [7, 1, 8, 9, 6, 10, 74, 75, 76, 77, 78, 79, 80, 81, 82, 83, 84, 85, 86, 87, 88, 89, 90, 91, 92, 93, 94, 95, 96, 97, 98, 99, 100, 101, 102, 103] (by decide +kernel) (by decide +kernel)
set_option maxRecDepth 20000 in
theorem gX12_round_X12_isMan : GoodIn wsX12_round (wsV RX12 148 RX12 yX12_isMan wsX12_isMan) := goodIn_app (goodIn_of _ (by decide +kernel)) ggX12_round_X12_isMan
set_option maxRecDepth 20000 in
theorem ggX12_round_X12_isLoad : GoodIn wsX12_round wsX12_isLoad := goodIn_r _ [13, 8, 9, 6, 10] (by decide +kernel) (by decide +kernel)
set_option maxRecDepth 20000 in
theorem gX12_round_X12_isLoad : GoodIn wsX12_round (va_wsS RX12 206 yX12_isLoad wsX12_isLoad) := goodIn_app (goodIn_of _ (by decide +kernel)) ggX12_round_X12_isLoad
set_option maxRecDepth 20000 in
theorem ggX12_round_X12_goes : GoodIn wsX12_round wsX12_goes := goodIn_r _ [17, 18, 1, 19, 2, 20, 21, 22, 23, 6, 24, 25, 26, 27, 28, 29, 30, 31, 32, 33, 34, 35, 36, 8, 9, 10, 37, 38, 39, 40, 41, 42, 43, 44, 45, 46, 47, 48, 49, 50, 51, 52, 53, 54, 55, 56, 57, 58, 59, 60, 61, 62, 63, 64, 65, 66, 67, 68, 69, 70, 71, 72, 73, 74, 75, 76, 77, 78, 79, 80, 81, 82, 83, 84, 85, 86, 87, 88, 89, 90, 91, 92, 93, 94, 95, 96, 97, 98, 99, 100, 101, 102, 103] (by decide +kernel) (by decide +kernel)
set_option maxRecDepth 20000 in
theorem gX12_round_X12_goes : GoodIn wsX12_round (wsV RX12 209 RX12 yX12_goes wsX12_goes) := goodIn_app (goodIn_of _ (by decide +kernel)) ggX12_round_X12_goes
theorem dX12_round_0 : decode cX12_round 0 = .ok (.aload_n 0, 1) := by decide +kernel
theorem dX12_round_1 : decode cX12_round 1 = .ok (.iload_n 1, 1) := by decide +kernel
theorem dX12_round_2 : decode cX12_round 2 = .ok (.invokevirtual 148, 3) := by decide +kernel
theorem dX12_round_5 : decode cX12_round 5 = .ok (.ifCond .ne 5, 3) := by decide +kernel
theorem dX12_round_8 : decode cX12_round 8 = .ok (.iconst (-1), 1) := by decide +kernel
theorem dX12_round_9 : decode cX12_round 9 = .ok (.ireturn, 1) := by decide +kernel
theorem dX12_round_10 : decode cX12_round 10 = .ok (.iload_n 2, 1) := by decide +kernel
theorem dX12_round_11 : decode cX12_round 11 = .ok (.invokestatic 206, 3) := by decide +kernel
theorem dX12_round_14 : decode cX12_round 14 = .ok (.ifCond .ne 6, 3) := by decide +kernel
theorem dX12_round_17 : decode cX12_round 17 = .ok (.bipush (-2), 2) := by decide +kernel
theorem dX12_round_19 : decode cX12_round 19 = .ok (.ireturn, 1) := by decide +kernel
theorem dX12_round_20 : decode cX12_round 20 = .ok (.aload_n 0, 1) := by decide +kernel
theorem dX12_round_21 : decode cX12_round 21 = .ok (.getfield 9, 3) := by decide +kernel
theorem dX12_round_24 : decode cX12_round 24 = .ok (.iconst 3, 1) := by decide +kernel
theorem dX12_round_25 : decode cX12_round 25 = .ok (.iaload, 1) := by decide +kernel
theorem dX12_round_26 : decode cX12_round 26 = .ok (.sipush 999, 3) := by decide +kernel
theorem dX12_round_29 : decode cX12_round 29 = .ok (.if_icmp .ne 6, 3) := by decide +kernel
theorem dX12_round_32 : decode cX12_round 32 = .ok (.bipush (-3), 2) := by decide +kernel
theorem dX12_round_34 : decode cX12_round 34 = .ok (.ireturn, 1) := by decide +kernel
theorem dX12_round_35 : decode cX12_round 35 = .ok (.aload_n 0, 1) := by decide +kernel
theorem dX12_round_36 : decode cX12_round 36 = .ok (.iload_n 1, 1) := by decide +kernel
theorem dX12_round_37 : decode cX12_round 37 = .ok (.iload_n 2, 1) := by decide +kernel
theorem dX12_round_38 : decode cX12_round 38 = .ok (.invokevirtual 209, 3) := by decide +kernel
theorem dX12_round_41 : decode cX12_round 41 = .ok (.aload_n 0, 1) := by decide +kernel
theorem dX12_round_42 : decode cX12_round 42 = .ok (.getfield 187, 3) := by decide +kernel
theorem dX12_round_45 : decode cX12_round 45 = .ok (.ireturn, 1) := by decide +kernel
set_option maxRecDepth 20000 in
theorem ggX12_rest_X12_isMan : GoodIn wsX12_rest wsX12_isMan := goodIn_r _ [6, 1, 7, 8, 5, 9, 10, 11, 12, 13, 14, 15, 16, 17, 18, 19, 20, 21, 22, 23, 24, 25, 26, 27, 28, 29, 30, 31, 32, 33, 34, 35, 36, 37, 38, 39] (by decide +kernel) (by decide +kernel)
set_option maxRecDepth 20000 in
theorem gX12_rest_X12_isMan : GoodIn wsX12_rest (wsV RX12 148 RX12 yX12_isMan wsX12_isMan) := goodIn_app (goodIn_of _ (by decide +kernel)) ggX12_rest_X12_isMan
set_option maxRecDepth 20000 in
theorem ggX12_rest_X12_in : GoodIn wsX12_rest wsX12_in := goodIn_r _ [9] (by decide +kernel) (by decide +kernel)
set_option maxRecDepth 20000 in
theorem gX12_rest_X12_in : GoodIn wsX12_rest (va_wsS RX12 53 yX12_in wsX12_in) := goodIn_app (goodIn_of _ (by decide +kernel)) ggX12_rest_X12_in
theorem dX12_rest_0 : decode cX12_rest 0 = .ok (.aload_n 0, 1) := by decide +kernel
theorem dX12_rest_1 : decode cX12_rest 1 = .ok (.iload_n 1, 1) := by decide +kernel
theorem dX12_rest_2 : decode cX12_rest 2 = .ok (.invokevirtual 148, 3) := by decide +kernel
theorem dX12_rest_5 : decode cX12_rest 5 = .ok (.ifCond .ne 5, 3) := by decide +kernel
theorem dX12_rest_8 : decode cX12_rest 8 = .ok (.iconst (-1), 1) := by decide +kernel
theorem dX12_rest_9 : decode cX12_rest 9 = .ok (.ireturn, 1) := by decide +kernel
theorem dX12_rest_10 : decode cX12_rest 10 = .ok (.iload_n 2, 1) := by decide +kernel
theorem dX12_rest_11 : decode cX12_rest 11 = .ok (.iconst 0, 1) := by decide +kernel
theorem dX12_rest_12 : decode cX12_rest 12 = .ok (.bipush 99, 2) := by decide +kernel
theorem dX12_rest_14 : decode cX12_rest 14 = .ok (.invokestatic 53, 3) := by decide +kernel
theorem dX12_rest_17 : decode cX12_rest 17 = .ok (.ifCond .ne 6, 3) := by decide +kernel
theorem dX12_rest_20 : decode cX12_rest 20 = .ok (.bipush (-2), 2) := by decide +kernel
theorem dX12_rest_22 : decode cX12_rest 22 = .ok (.ireturn, 1) := by decide +kernel
theorem dX12_rest_23 : decode cX12_rest 23 = .ok (.aload_n 0, 1) := by decide +kernel
theorem dX12_rest_24 : decode cX12_rest 24 = .ok (.getfield 9, 3) := by decide +kernel
theorem dX12_rest_27 : decode cX12_rest 27 = .ok (.iconst 4, 1) := by decide +kernel
theorem dX12_rest_28 : decode cX12_rest 28 = .ok (.iload_n 1, 1) := by decide +kernel
theorem dX12_rest_29 : decode cX12_rest 29 = .ok (.iadd, 1) := by decide +kernel
theorem dX12_rest_30 : decode cX12_rest 30 = .ok (.aload_n 0, 1) := by decide +kernel
theorem dX12_rest_31 : decode cX12_rest 31 = .ok (.getfield 9, 3) := by decide +kernel
theorem dX12_rest_34 : decode cX12_rest 34 = .ok (.iconst 4, 1) := by decide +kernel
theorem dX12_rest_35 : decode cX12_rest 35 = .ok (.iload_n 1, 1) := by decide +kernel
theorem dX12_rest_36 : decode cX12_rest 36 = .ok (.iadd, 1) := by decide +kernel
theorem dX12_rest_37 : decode cX12_rest 37 = .ok (.iaload, 1) := by decide +kernel
theorem dX12_rest_38 : decode cX12_rest 38 = .ok (.iload_n 2, 1) := by decide +kernel
theorem dX12_rest_39 : decode cX12_rest 39 = .ok (.if_icmp .ge 7, 3) := by decide +kernel
theorem dX12_rest_42 : decode cX12_rest 42 = .ok (.iconst 0, 1) := by decide +kernel
theorem dX12_rest_43 : decode cX12_rest 43 = .ok (.goto 13, 3) := by decide +kernel
theorem dX12_rest_46 : decode cX12_rest 46 = .ok (.aload_n 0, 1) := by decide +kernel
theorem dX12_rest_47 : decode cX12_rest 47 = .ok (.getfield 9, 3) := by decide +kernel
theorem dX12_rest_50 : decode cX12_rest 50 = .ok (.iconst 4, 1) := by decide +kernel
theorem dX12_rest_51 : decode cX12_rest 51 = .ok (.iload_n 1, 1) := by decide +kernel
theorem dX12_rest_52 : decode cX12_rest 52 = .ok (.iadd, 1) := by decide +kernel
theorem dX12_rest_53 : decode cX12_rest 53 = .ok (.iaload, 1) := by decide +kernel
theorem dX12_rest_54 : decode cX12_rest 54 = .ok (.iload_n 2, 1) := by decide +kernel
theorem dX12_rest_55 : decode cX12_rest 55 = .ok (.isub, 1) := by decide +kernel
theorem dX12_rest_56 : decode cX12_rest 56 = .ok (.iastore, 1) := by decide +kernel
theorem dX12_rest_57 : decode cX12_rest 57 = .ok (.aload_n 0, 1) := by decide +kernel
theorem dX12_rest_58 : decode cX12_rest 58 = .ok (.getfield 9, 3) := by decide +kernel
theorem dX12_rest_61 : decode cX12_rest 61 = .ok (.iconst 4, 1) := by decide +kernel
theorem dX12_rest_62 : decode cX12_rest 62 = .ok (.iload_n 1, 1) := by decide +kernel
theorem dX12_rest_63 : decode cX12_rest 63 = .ok (.iadd, 1) := by decide +kernel
theorem dX12_rest_64 : decode cX12_rest 64 = .ok (.iaload, 1) := by decide +kernel
theorem dX12_rest_65 : decode cX12_rest 65 = .ok (.ireturn, 1) := by decide +kernel
set_option maxRecDepth 20000 in
theorem ggX12_run_X12_isMan : GoodIn wsX12_run wsX12_isMan := goodIn_r _ [9, 4, 10, 11, 8, 12, 83, 84, 85, 86, 87, 88, 89, 90, 91, 92, 93, 94, 95, 96, 97, 98, 99, 100, 101, 102, 103, 104, 105, 106, 107, 108, 109, 110, 111, 112] (by decide +kernel) (by decide +kernel)
set_option maxRecDepth 20000 in
theorem gX12_run_X12_isMan : GoodIn wsX12_run (wsV RX12 148 RX12 yX12_isMan wsX12_isMan) := goodIn_app (goodIn_of _ (by decide +kernel)) ggX12_run_X12_isMan
set_option maxRecDepth 20000 in
theorem ggX12_run_X12_in : GoodIn wsX12_run wsX12_in := goodIn_r _ [12] (by decide +kernel) (by decide +kernel)
set_option maxRecDepth 20000 in
theorem gX12_run_X12_in : GoodIn wsX12_run (va_wsS RX12 53 yX12_in wsX12_in) := goodIn_app (goodIn_of _ (by decide +kernel)) ggX12_run_X12_in
set_option maxRecDepth 20000 in
theorem ggX12_run_X12_isLoad : GoodIn wsX12_run wsX12_isLoad := goodIn_r _ [15, 10, 11, 8, 12] (by decide +kernel) (by decide +kernel)
set_option maxRecDepth 20000 in
theorem gX12_run_X12_isLoad : GoodIn wsX12_run (va_wsS RX12 206 yX12_isLoad wsX12_isLoad) := goodIn_app (goodIn_of _ (by decide +kernel)) ggX12_run_X12_isLoad
set_option maxRecDepth 20000 in
theorem ggX12_run_X12_keeps : GoodIn wsX12_run wsX12_keeps := goodIn_r _ [19, 20, 4, 83, 84, 85, 86, 87, 88, 89, 90, 91, 92, 93, 94, 95, 96, 97, 98, 99, 100, 101, 102, 103, 104, 105, 106, 107, 108, 109, 110, 111, 112] (by decide +kernel) (by decide +kernel)
set_option maxRecDepth 20000 in
theorem gX12_run_X12_keeps : GoodIn wsX12_run (wsV RX12 213 RX12 yX12_keeps wsX12_keeps) := goodIn_app (goodIn_of _ (by decide +kernel)) ggX12_run_X12_keeps
set_option maxRecDepth 20000 in
theorem ggX12_run_X12_goes : GoodIn wsX12_run wsX12_goes := goodIn_r _ [24, 3, 4, 25, 2, 1, 26, 27, 28, 8, 29, 30, 31, 32, 33, 34, 35, 36, 37, 38, 39, 40, 41, 10, 11, 12, 42, 43, 44, 45, 46, 47, 48, 49, 50, 51, 52, 53, 54, 55, 56, 57, 58, 59, 60, 61, 62, 63, 64, 65, 66, 67, 68, 69, 70, 71, 72, 73, 74, 75, 76, 77, 78, 83, 84, 85, 86, 87, 88, 89, 90, 91, 92, 93, 94, 95, 96, 97, 98, 99, 100, 101, 102, 103, 104, 105, 106, 107, 108, 109, 110, 111, 112] (by decide +kernel) (by decide +kernel)
set_option maxRecDepth 20000 in
theorem gX12_run_X12_goes : GoodIn wsX12_run (wsV RX12 209 RX12 yX12_goes wsX12_goes) := goodIn_app (goodIn_of _ (by decide +kernel)) ggX12_run_X12_goes
set_option maxRecDepth 20000 in
theorem ggX12_run_X12_goesBackTo : GoodIn wsX12_run wsX12_goesBackTo := goodIn_r _ [82, 51, 4, 20, 83, 84, 85, 86, 87, 88, 89, 90, 91, 92, 93, 94, 95, 96, 97, 98, 99, 100, 101, 102, 103, 104, 105, 106, 107, 108, 109, 110, 111, 112] (by decide +kernel) (by decide +kernel)
set_option maxRecDepth 20000 in
theorem gX12_run_X12_goesBackTo : GoodIn wsX12_run (wsV RX12 216 RX12 yX12_goesBackTo wsX12_goesBackTo) := goodIn_app (goodIn_of _ (by decide +kernel)) ggX12_run_X12_goesBackTo
theorem dX12_run_0 : decode cX12_run 0 = .ok (.aload_n 0, 1) := by decide +kernel
theorem dX12_run_1 : decode cX12_run 1 = .ok (.iload_n 1, 1) := by decide +kernel
theorem dX12_run_2 : decode cX12_run 2 = .ok (.invokevirtual 148, 3) := by decide +kernel
theorem dX12_run_5 : decode cX12_run 5 = .ok (.ifCond .eq 13, 3) := by decide +kernel
theorem dX12_run_8 : decode cX12_run 8 = .ok (.iload 4, 2) := by decide +kernel
theorem dX12_run_10 : decode cX12_run 10 = .ok (.iconst 0, 1) := by decide +kernel
theorem dX12_run_11 : decode cX12_run 11 = .ok (.iconst 3, 1) := by decide +kernel
theorem dX12_run_12 : decode cX12_run 12 = .ok (.invokestatic 53, 3) := by decide +kernel
theorem dX12_run_15 : decode cX12_run 15 = .ok (.ifCond .ne 7, 3) := by decide +kernel
theorem dX12_run_18 : decode cX12_run 18 = .ok (.sipush (-1001), 3) := by decide +kernel
theorem dX12_run_21 : decode cX12_run 21 = .ok (.ireturn, 1) := by decide +kernel
theorem dX12_run_22 : decode cX12_run 22 = .ok (.iload_n 2, 1) := by decide +kernel
theorem dX12_run_23 : decode cX12_run 23 = .ok (.iconst 0, 1) := by decide +kernel
theorem dX12_run_24 : decode cX12_run 24 = .ok (.bipush 30, 2) := by decide +kernel
theorem dX12_run_26 : decode cX12_run 26 = .ok (.invokestatic 53, 3) := by decide +kernel
theorem dX12_run_29 : decode cX12_run 29 = .ok (.ifCond .eq 10, 3) := by decide +kernel
theorem dX12_run_32 : decode cX12_run 32 = .ok (.iload_n 3, 1) := by decide +kernel
theorem dX12_run_33 : decode cX12_run 33 = .ok (.invokestatic 206, 3) := by decide +kernel
theorem dX12_run_36 : decode cX12_run 36 = .ok (.ifCond .ne 7, 3) := by decide +kernel
theorem dX12_run_39 : decode cX12_run 39 = .ok (.sipush (-1002), 3) := by decide +kernel
theorem dX12_run_42 : decode cX12_run 42 = .ok (.ireturn, 1) := by decide +kernel
theorem dX12_run_43 : decode cX12_run 43 = .ok (.aload_n 0, 1) := by decide +kernel
theorem dX12_run_44 : decode cX12_run 44 = .ok (.iconst 0, 1) := by decide +kernel
theorem dX12_run_45 : decode cX12_run 45 = .ok (.invokevirtual 213, 3) := by decide +kernel
theorem dX12_run_48 : decode cX12_run 48 = .ok (.iconst 0, 1) := by decide +kernel
theorem dX12_run_49 : decode cX12_run 49 = .ok (.istore 5, 2) := by decide +kernel
theorem dX12_run_51 : decode cX12_run 51 = .ok (.iconst 0, 1) := by decide +kernel
theorem dX12_run_52 : decode cX12_run 52 = .ok (.istore 6, 2) := by decide +kernel
theorem dX12_run_54 : decode cX12_run 54 = .ok (.iload 6, 2) := by decide +kernel
theorem dX12_run_56 : decode cX12_run 56 = .ok (.iload_n 2, 1) := by decide +kernel
theorem dX12_run_57 : decode cX12_run 57 = .ok (.if_icmp .ge 64, 3) := by decide +kernel
theorem dX12_run_60 : decode cX12_run 60 = .ok (.aload_n 0, 1) := by decide +kernel
theorem dX12_run_61 : decode cX12_run 61 = .ok (.iload_n 1, 1) := by decide +kernel
theorem dX12_run_62 : decode cX12_run 62 = .ok (.iload_n 3, 1) := by decide +kernel
theorem dX12_run_63 : decode cX12_run 63 = .ok (.invokevirtual 209, 3) := by decide +kernel
theorem dX12_run_66 : decode cX12_run 66 = .ok (.iload 5, 2) := by decide +kernel
theorem dX12_run_68 : decode cX12_run 68 = .ok (.iload 4, 2) := by decide +kernel
theorem dX12_run_70 : decode cX12_run 70 = .ok (.ifCond .ne 10, 3) := by decide +kernel
theorem dX12_run_73 : decode cX12_run 73 = .ok (.aload_n 0, 1) := by decide +kernel
theorem dX12_run_74 : decode cX12_run 74 = .ok (.getfield 197, 3) := by decide +kernel
theorem dX12_run_77 : decode cX12_run 77 = .ok (.goto 35, 3) := by decide +kernel
theorem dX12_run_80 : decode cX12_run 80 = .ok (.iload 4, 2) := by decide +kernel
theorem dX12_run_82 : decode cX12_run 82 = .ok (.iconst 1, 1) := by decide +kernel
theorem dX12_run_83 : decode cX12_run 83 = .ok (.if_icmp .ne 10, 3) := by decide +kernel
theorem dX12_run_86 : decode cX12_run 86 = .ok (.aload_n 0, 1) := by decide +kernel
theorem dX12_run_87 : decode cX12_run 87 = .ok (.getfield 187, 3) := by decide +kernel
theorem dX12_run_90 : decode cX12_run 90 = .ok (.goto 22, 3) := by decide +kernel
theorem dX12_run_93 : decode cX12_run 93 = .ok (.iload 4, 2) := by decide +kernel
theorem dX12_run_95 : decode cX12_run 95 = .ok (.iconst 3, 1) := by decide +kernel
theorem dX12_run_96 : decode cX12_run 96 = .ok (.if_icmp .ne 15, 3) := by decide +kernel
theorem dX12_run_99 : decode cX12_run 99 = .ok (.aload_n 0, 1) := by decide +kernel
theorem dX12_run_100 : decode cX12_run 100 = .ok (.getfield 174, 3) := by decide +kernel
theorem dX12_run_103 : decode cX12_run 103 = .ok (.aload_n 0, 1) := by decide +kernel
theorem dX12_run_104 : decode cX12_run 104 = .ok (.getfield 197, 3) := by decide +kernel
theorem dX12_run_107 : decode cX12_run 107 = .ok (.isub, 1) := by decide +kernel
theorem dX12_run_108 : decode cX12_run 108 = .ok (.goto 4, 3) := by decide +kernel
theorem dX12_run_111 : decode cX12_run 111 = .ok (.iconst 0, 1) := by decide +kernel
theorem dX12_run_112 : decode cX12_run 112 = .ok (.iadd, 1) := by decide +kernel
theorem dX12_run_113 : decode cX12_run 113 = .ok (.istore 5, 2) := by decide +kernel
theorem dX12_run_115 : decode cX12_run 115 = .ok (.iinc 6 1, 3) := by decide +kernel
theorem dX12_run_118 : decode cX12_run 118 = .ok (.goto (-64), 3) := by decide +kernel
theorem dX12_run_121 : decode cX12_run 121 = .ok (.iload 4, 2) := by decide +kernel
theorem dX12_run_123 : decode cX12_run 123 = .ok (.iconst 2, 1) := by decide +kernel
theorem dX12_run_124 : decode cX12_run 124 = .ok (.if_icmp .ne 14, 3) := by decide +kernel
theorem dX12_run_127 : decode cX12_run 127 = .ok (.aload_n 0, 1) := by decide +kernel
theorem dX12_run_128 : decode cX12_run 128 = .ok (.getfield 9, 3) := by decide +kernel
theorem dX12_run_131 : decode cX12_run 131 = .ok (.iconst 4, 1) := by decide +kernel
theorem dX12_run_132 : decode cX12_run 132 = .ok (.iload_n 1, 1) := by decide +kernel
theorem dX12_run_133 : decode cX12_run 133 = .ok (.iadd, 1) := by decide +kernel
theorem dX12_run_134 : decode cX12_run 134 = .ok (.iaload, 1) := by decide +kernel
theorem dX12_run_135 : decode cX12_run 135 = .ok (.goto 5, 3) := by decide +kernel
theorem dX12_run_138 : decode cX12_run 138 = .ok (.iload 5, 2) := by decide +kernel
theorem dX12_run_140 : decode cX12_run 140 = .ok (.istore 6, 2) := by decide +kernel
theorem dX12_run_142 : decode cX12_run 142 = .ok (.aload_n 0, 1) := by decide +kernel
theorem dX12_run_143 : decode cX12_run 143 = .ok (.iconst 0, 1) := by decide +kernel
theorem dX12_run_144 : decode cX12_run 144 = .ok (.invokevirtual 216, 3) := by decide +kernel
theorem dX12_run_147 : decode cX12_run 147 = .ok (.iload 6, 2) := by decide +kernel
theorem dX12_run_149 : decode cX12_run 149 = .ok (.ireturn, 1) := by decide +kernel
set_option maxRecDepth 20000 in
theorem ggX12_goesBy_X12_keeps : GoodIn wsX12_goesBy wsX12_keeps := goodIn_r _ [7, 8, 9, 76, 77, 78, 79, 80, 81, 82, 83, 84, 85, 86, 87, 88, 89, 90, 91, 92, 93, 94, 95, 96, 97, 98, 99, 100, 101, 102, 103, 104, 105] (by decide +kernel) (by decide +kernel)
set_option maxRecDepth 20000 in
theorem gX12_goesBy_X12_keeps : GoodIn wsX12_goesBy (wsV RX12 213 RX12 yX12_keeps wsX12_keeps) := goodIn_app (goodIn_of _ (by decide +kernel)) ggX12_goesBy_X12_keeps
set_option maxRecDepth 20000 in
theorem ggX12_goesBy_X12_goes : GoodIn wsX12_goesBy wsX12_goes := goodIn_r _ [13, 14, 9, 15, 1, 2, 16, 17, 18, 6, 19, 20, 21, 22, 23, 24, 25, 26, 27, 28, 29, 30, 31, 32, 33, 34, 35, 36, 37, 38, 39, 40, 41, 42, 43, 44, 45, 46, 47, 48, 49, 50, 51, 52, 53, 54, 55, 56, 57, 58, 59, 60, 61, 62, 63, 64, 65, 66, 67, 68, 69, 70, 71, 76, 77, 78, 79, 80, 81, 82, 83, 84, 85, 86, 87, 88, 89, 90, 91, 92, 93, 94, 95, 96, 97, 98, 99, 100, 101, 102, 103, 104, 105] (by decide +kernel) (by decide +kernel)
set_option maxRecDepth 20000 in
theorem gX12_goesBy_X12_goes : GoodIn wsX12_goesBy (wsV RX12 209 RX12 yX12_goes wsX12_goes) := goodIn_app (goodIn_of _ (by decide +kernel)) ggX12_goesBy_X12_goes
set_option maxRecDepth 20000 in
theorem ggX12_goesBy_X12_goesBackTo : GoodIn wsX12_goesBy wsX12_goesBackTo := goodIn_r _ [75, 44, 9, 8, 76, 77, 78, 79, 80, 81, 82, 83, 84, 85, 86, 87, 88, 89, 90, 91, 92, 93, 94, 95, 96, 97, 98, 99, 100, 101, 102, 103, 104, 105] (by decide +kernel) (by decide +kernel)
set_option maxRecDepth 20000 in
theorem gX12_goesBy_X12_goesBackTo : GoodIn wsX12_goesBy (wsV RX12 216 RX12 yX12_goesBackTo wsX12_goesBackTo) := goodIn_app (goodIn_of _ (by decide +kernel)) ggX12_goesBy_X12_goesBackTo
theorem dX12_goesBy_0 : decode cX12_goesBy 0 = .ok (.iconst 0, 1) := by decide +kernel
theorem dX12_goesBy_1 : decode cX12_goesBy 1 = .ok (.istore 4, 2) := by decide +kernel
theorem dX12_goesBy_3 : decode cX12_goesBy 3 = .ok (.iconst 0, 1) := by decide +kernel
theorem dX12_goesBy_4 : decode cX12_goesBy 4 = .ok (.istore 5, 2) := by decide +kernel
theorem dX12_goesBy_6 : decode cX12_goesBy 6 = .ok (.iconst 0, 1) := by decide +kernel
theorem dX12_goesBy_7 : decode cX12_goesBy 7 = .ok (.istore 6, 2) := by decide +kernel
theorem dX12_goesBy_9 : decode cX12_goesBy 9 = .ok (.iload 6, 2) := by decide +kernel
theorem dX12_goesBy_11 : decode cX12_goesBy 11 = .ok (.sipush 200, 3) := by decide +kernel
theorem dX12_goesBy_14 : decode cX12_goesBy 14 = .ok (.if_icmp .ge 52, 3) := by decide +kernel
theorem dX12_goesBy_17 : decode cX12_goesBy 17 = .ok (.aload_n 0, 1) := by decide +kernel
theorem dX12_goesBy_18 : decode cX12_goesBy 18 = .ok (.iconst 1, 1) := by decide +kernel
theorem dX12_goesBy_19 : decode cX12_goesBy 19 = .ok (.invokevirtual 213, 3) := by decide +kernel
theorem dX12_goesBy_22 : decode cX12_goesBy 22 = .ok (.aload_n 0, 1) := by decide +kernel
theorem dX12_goesBy_23 : decode cX12_goesBy 23 = .ok (.iload_n 1, 1) := by decide +kernel
theorem dX12_goesBy_24 : decode cX12_goesBy 24 = .ok (.iload_n 2, 1) := by decide +kernel
theorem dX12_goesBy_25 : decode cX12_goesBy 25 = .ok (.invokevirtual 209, 3) := by decide +kernel
theorem dX12_goesBy_28 : decode cX12_goesBy 28 = .ok (.iload 5, 2) := by decide +kernel
theorem dX12_goesBy_30 : decode cX12_goesBy 30 = .ok (.aload_n 0, 1) := by decide +kernel
theorem dX12_goesBy_31 : decode cX12_goesBy 31 = .ok (.getfield 187, 3) := by decide +kernel
theorem dX12_goesBy_34 : decode cX12_goesBy 34 = .ok (.iadd, 1) := by decide +kernel
theorem dX12_goesBy_35 : decode cX12_goesBy 35 = .ok (.istore 5, 2) := by decide +kernel
theorem dX12_goesBy_37 : decode cX12_goesBy 37 = .ok (.iload 5, 2) := by decide +kernel
theorem dX12_goesBy_39 : decode cX12_goesBy 39 = .ok (.iload_n 3, 1) := by decide +kernel
theorem dX12_goesBy_40 : decode cX12_goesBy 40 = .ok (.if_icmp .le 11, 3) := by decide +kernel
theorem dX12_goesBy_43 : decode cX12_goesBy 43 = .ok (.aload_n 0, 1) := by decide +kernel
theorem dX12_goesBy_44 : decode cX12_goesBy 44 = .ok (.iconst 1, 1) := by decide +kernel
theorem dX12_goesBy_45 : decode cX12_goesBy 45 = .ok (.invokevirtual 216, 3) := by decide +kernel
theorem dX12_goesBy_48 : decode cX12_goesBy 48 = .ok (.iload 4, 2) := by decide +kernel
theorem dX12_goesBy_50 : decode cX12_goesBy 50 = .ok (.ireturn, 1) := by decide +kernel
theorem dX12_goesBy_51 : decode cX12_goesBy 51 = .ok (.iload 4, 2) := by decide +kernel
theorem dX12_goesBy_53 : decode cX12_goesBy 53 = .ok (.aload_n 0, 1) := by decide +kernel
theorem dX12_goesBy_54 : decode cX12_goesBy 54 = .ok (.getfield 197, 3) := by decide +kernel
theorem dX12_goesBy_57 : decode cX12_goesBy 57 = .ok (.iadd, 1) := by decide +kernel
theorem dX12_goesBy_58 : decode cX12_goesBy 58 = .ok (.istore 4, 2) := by decide +kernel
theorem dX12_goesBy_60 : decode cX12_goesBy 60 = .ok (.iinc 6 1, 3) := by decide +kernel
theorem dX12_goesBy_63 : decode cX12_goesBy 63 = .ok (.goto (-54), 3) := by decide +kernel
theorem dX12_goesBy_66 : decode cX12_goesBy 66 = .ok (.iload 4, 2) := by decide +kernel
theorem dX12_goesBy_68 : decode cX12_goesBy 68 = .ok (.ireturn, 1) := by decide +kernel
set_option maxRecDepth 20000 in
theorem ggX12_byOf_X12_keeps : GoodIn wsX12_byOf wsX12_keeps := goodIn_r _ [5, 6, 7, 80, 81, 82, 83, 84, 85, 86, 87, 88, 89, 90, 91, 92, 93, 94, 95, 96, 97, 98, 99, 100, 101, 102, 103, 104, 105, 106, 107, 108, 109] (by decide +kernel) (by decide +kernel)
set_option maxRecDepth 20000 in
theorem gX12_byOf_X12_keeps : GoodIn wsX12_byOf (wsV RX12 213 RX12 yX12_keeps wsX12_keeps) := goodIn_app (goodIn_of _ (by decide +kernel)) ggX12_byOf_X12_keeps
set_option maxRecDepth 20000 in
theorem ggX12_byOf_X12_goesBy : GoodIn wsX12_byOf wsX12_goesBy := goodIn_r _ [11, 12, 13, 1, 2, 3, 4, 5, 6, 7, 14, 15, 16, 17, 18, 19, 20, 21, 22, 23, 24, 25, 26, 27, 28, 29, 30, 31, 32, 33, 34, 35, 36, 37, 38, 39, 40, 41, 42, 43, 44, 45, 46, 47, 48, 49, 50, 51, 52, 53, 54, 55, 56, 57, 58, 59, 60, 61, 62, 63, 64, 65, 66, 67, 68, 69, 70, 71, 72, 73, 74, 75, 76, 77, 78, 79, 80, 81, 82, 83, 84, 85, 86, 87, 88, 89, 90, 91, 92, 93, 94, 95, 96, 97, 98, 99, 100, 101, 102, 103, 104, 105, 106, 107, 108, 109] (by decide +kernel) (by decide +kernel)
set_option maxRecDepth 20000 in
theorem gX12_byOf_X12_goesBy : GoodIn wsX12_byOf (wsV RX12 219 RX12 yX12_goesBy wsX12_goesBy) := goodIn_app (goodIn_of _ (by decide +kernel)) ggX12_byOf_X12_goesBy
set_option maxRecDepth 20000 in
theorem ggX12_byOf_X12_goesBackTo : GoodIn wsX12_byOf wsX12_goesBackTo := goodIn_r _ [79, 48, 7, 6, 80, 81, 82, 83, 84, 85, 86, 87, 88, 89, 90, 91, 92, 93, 94, 95, 96, 97, 98, 99, 100, 101, 102, 103, 104, 105, 106, 107, 108, 109] (by decide +kernel) (by decide +kernel)
set_option maxRecDepth 20000 in
theorem gX12_byOf_X12_goesBackTo : GoodIn wsX12_byOf (wsV RX12 216 RX12 yX12_goesBackTo wsX12_goesBackTo) := goodIn_app (goodIn_of _ (by decide +kernel)) ggX12_byOf_X12_goesBackTo
theorem dX12_byOf_0 : decode cX12_byOf 0 = .ok (.aload_n 0, 1) := by decide +kernel
theorem dX12_byOf_1 : decode cX12_byOf 1 = .ok (.iconst 0, 1) := by decide +kernel
theorem dX12_byOf_2 : decode cX12_byOf 2 = .ok (.invokevirtual 213, 3) := by decide +kernel
theorem dX12_byOf_5 : decode cX12_byOf 5 = .ok (.aload_n 0, 1) := by decide +kernel
theorem dX12_byOf_6 : decode cX12_byOf 6 = .ok (.iload_n 1, 1) := by decide +kernel
theorem dX12_byOf_7 : decode cX12_byOf 7 = .ok (.iload_n 2, 1) := by decide +kernel
theorem dX12_byOf_8 : decode cX12_byOf 8 = .ok (.iload_n 3, 1) := by decide +kernel
theorem dX12_byOf_9 : decode cX12_byOf 9 = .ok (.invokevirtual 219, 3) := by decide +kernel
theorem dX12_byOf_12 : decode cX12_byOf 12 = .ok (.istore 4, 2) := by decide +kernel
theorem dX12_byOf_14 : decode cX12_byOf 14 = .ok (.aload_n 0, 1) := by decide +kernel
theorem dX12_byOf_15 : decode cX12_byOf 15 = .ok (.iconst 0, 1) := by decide +kernel
theorem dX12_byOf_16 : decode cX12_byOf 16 = .ok (.invokevirtual 216, 3) := by decide +kernel
theorem dX12_byOf_19 : decode cX12_byOf 19 = .ok (.iload 4, 2) := by decide +kernel
theorem dX12_byOf_21 : decode cX12_byOf 21 = .ok (.ireturn, 1) := by decide +kernel
set_option maxRecDepth 20000 in
theorem ggX12_by_X12_isMan : GoodIn wsX12_by wsX12_isMan := goodIn_r _ [5, 6, 7, 8, 4, 9, 91, 92, 93, 94, 95, 96, 97, 98, 99, 100, 101, 102, 103, 104, 105, 106, 107, 108, 109, 110, 111, 112, 113, 114, 115, 116, 117, 118, 119, 120] (by decide +kernel) (by decide +kernel)
set_option maxRecDepth 20000 in
theorem gX12_by_X12_isMan : GoodIn wsX12_by (wsV RX12 148 RX12 yX12_isMan wsX12_isMan) := goodIn_app (goodIn_of _ (by decide +kernel)) ggX12_by_X12_isMan
set_option maxRecDepth 20000 in
theorem ggX12_by_X12_isLoad : GoodIn wsX12_by wsX12_isLoad := goodIn_r _ [12, 7, 8, 4, 9] (by decide +kernel) (by decide +kernel)
set_option maxRecDepth 20000 in
theorem gX12_by_X12_isLoad : GoodIn wsX12_by (va_wsS RX12 206 yX12_isLoad wsX12_isLoad) := goodIn_app (goodIn_of _ (by decide +kernel)) ggX12_by_X12_isLoad
set_option maxRecDepth 20000 in
theorem ggX12_by_X12_in : GoodIn wsX12_by wsX12_in := goodIn_r _ [9] (by decide +kernel) (by decide +kernel)
set_option maxRecDepth 20000 in
theorem gX12_by_X12_in : GoodIn wsX12_by (va_wsS RX12 53 yX12_in wsX12_in) := goodIn_app (goodIn_of _ (by decide +kernel)) ggX12_by_X12_in
set_option maxRecDepth 20000 in
theorem ggX12_by_X12_byOf : GoodIn wsX12_by wsX12_byOf := goodIn_r _ [16, 17, 18, 19, 4, 20, 21, 6, 22, 23, 24, 25, 26, 27, 28, 29, 30, 31, 32, 33, 34, 35, 36, 37, 38, 39, 40, 41, 42, 43, 44, 45, 46, 47, 48, 49, 7, 8, 9, 50, 51, 52, 53, 54, 55, 56, 57, 58, 59, 60, 61, 62, 63, 64, 65, 66, 67, 68, 69, 70, 71, 72, 73, 74, 75, 76, 77, 78, 79, 80, 81, 82, 83, 84, 85, 86, 87, 88, 89, 90, 91, 92, 93, 94, 95, 96, 97, 98, 99, 100, 101, 102, 103, 104, 105, 106, 107, 108, 109, 110, 111, 112, 113, 114, 115, 116, 117, 118, 119, 120] (by decide +kernel) (by decide +kernel)
set_option maxRecDepth 20000 in
theorem gX12_by_X12_byOf : GoodIn wsX12_by (wsV RX12 222 RX12 yX12_byOf wsX12_byOf) := goodIn_app (goodIn_of _ (by decide +kernel)) ggX12_by_X12_byOf
theorem dX12_by_0 : decode cX12_by 0 = .ok (.aload_n 0, 1) := by decide +kernel
theorem dX12_by_1 : decode cX12_by 1 = .ok (.iload_n 1, 1) := by decide +kernel
theorem dX12_by_2 : decode cX12_by 2 = .ok (.invokevirtual 148, 3) := by decide +kernel
theorem dX12_by_5 : decode cX12_by 5 = .ok (.ifCond .ne 5, 3) := by decide +kernel
theorem dX12_by_8 : decode cX12_by 8 = .ok (.iconst (-1), 1) := by decide +kernel
theorem dX12_by_9 : decode cX12_by 9 = .ok (.ireturn, 1) := by decide +kernel
theorem dX12_by_10 : decode cX12_by 10 = .ok (.iload_n 2, 1) := by decide +kernel
theorem dX12_by_11 : decode cX12_by 11 = .ok (.invokestatic 206, 3) := by decide +kernel
theorem dX12_by_14 : decode cX12_by 14 = .ok (.ifCond .eq 24, 3) := by decide +kernel
theorem dX12_by_17 : decode cX12_by 17 = .ok (.iload_n 3, 1) := by decide +kernel
theorem dX12_by_18 : decode cX12_by 18 = .ok (.iconst 0, 1) := by decide +kernel
theorem dX12_by_19 : decode cX12_by 19 = .ok (.sipush 9999, 3) := by decide +kernel
theorem dX12_by_22 : decode cX12_by 22 = .ok (.invokestatic 53, 3) := by decide +kernel
theorem dX12_by_25 : decode cX12_by 25 = .ok (.ifCond .eq 13, 3) := by decide +kernel
theorem dX12_by_28 : decode cX12_by 28 = .ok (.aload_n 0, 1) := by decide +kernel
theorem dX12_by_29 : decode cX12_by 29 = .ok (.iload_n 1, 1) := by decide +kernel
theorem dX12_by_30 : decode cX12_by 30 = .ok (.iload_n 2, 1) := by decide +kernel
theorem dX12_by_31 : decode cX12_by 31 = .ok (.iload_n 3, 1) := by decide +kernel
theorem dX12_by_32 : decode cX12_by 32 = .ok (.invokevirtual 222, 3) := by decide +kernel
theorem dX12_by_35 : decode cX12_by 35 = .ok (.goto 5, 3) := by decide +kernel
theorem dX12_by_38 : decode cX12_by 38 = .ok (.bipush (-2), 2) := by decide +kernel
theorem dX12_by_40 : decode cX12_by 40 = .ok (.ireturn, 1) := by decide +kernel
set_option maxRecDepth 20000 in
theorem ggX12_full_X12_isMan : GoodIn wsX12_full wsX12_isMan := goodIn_r _ [5, 6, 7, 8, 4, 9, 88, 89, 90, 91, 92, 93, 94, 95, 96, 97, 98, 99, 100, 101, 102, 103, 104, 105, 106, 107, 108, 109, 110, 111, 112, 113, 114, 115, 116, 117] (by decide +kernel) (by decide +kernel)
set_option maxRecDepth 20000 in
theorem gX12_full_X12_isMan : GoodIn wsX12_full (wsV RX12 148 RX12 yX12_isMan wsX12_isMan) := goodIn_app (goodIn_of _ (by decide +kernel)) ggX12_full_X12_isMan
set_option maxRecDepth 20000 in
theorem ggX12_full_X12_in : GoodIn wsX12_full wsX12_in := goodIn_r _ [9] (by decide +kernel) (by decide +kernel)
set_option maxRecDepth 20000 in
theorem gX12_full_X12_in : GoodIn wsX12_full (va_wsS RX12 53 yX12_in wsX12_in) := goodIn_app (goodIn_of _ (by decide +kernel)) ggX12_full_X12_in
set_option maxRecDepth 20000 in
theorem ggX12_full_X12_byOf : GoodIn wsX12_full wsX12_byOf := goodIn_r _ [13, 14, 15, 16, 4, 17, 18, 6, 19, 20, 21, 22, 23, 24, 25, 26, 27, 28, 29, 30, 31, 32, 33, 34, 35, 36, 37, 38, 39, 40, 41, 42, 43, 44, 45, 46, 7, 8, 9, 47, 48, 49, 50, 51, 52, 53, 54, 55, 56, 57, 58, 59, 60, 61, 62, 63, 64, 65, 66, 67, 68, 69, 70, 71, 72, 73, 74, 75, 76, 77, 78, 79, 80, 81, 82, 83, 84, 85, 86, 87, 88, 89, 90, 91, 92, 93, 94, 95, 96, 97, 98, 99, 100, 101, 102, 103, 104, 105, 106, 107, 108, 109, 110, 111, 112, 113, 114, 115, 116, 117] (by decide +kernel) (by decide +kernel)
set_option maxRecDepth 20000 in
theorem gX12_full_X12_byOf : GoodIn wsX12_full (wsV RX12 222 RX12 yX12_byOf wsX12_byOf) := goodIn_app (goodIn_of _ (by decide +kernel)) ggX12_full_X12_byOf
theorem dX12_full_0 : decode cX12_full 0 = .ok (.aload_n 0, 1) := by decide +kernel
theorem dX12_full_1 : decode cX12_full 1 = .ok (.iload_n 1, 1) := by decide +kernel
theorem dX12_full_2 : decode cX12_full 2 = .ok (.invokevirtual 148, 3) := by decide +kernel
theorem dX12_full_5 : decode cX12_full 5 = .ok (.ifCond .ne 5, 3) := by decide +kernel
theorem dX12_full_8 : decode cX12_full 8 = .ok (.iconst (-1), 1) := by decide +kernel
theorem dX12_full_9 : decode cX12_full 9 = .ok (.ireturn, 1) := by decide +kernel
theorem dX12_full_10 : decode cX12_full 10 = .ok (.iload_n 2, 1) := by decide +kernel
theorem dX12_full_11 : decode cX12_full 11 = .ok (.iconst 0, 1) := by decide +kernel
theorem dX12_full_12 : decode cX12_full 12 = .ok (.sipush 9999, 3) := by decide +kernel
theorem dX12_full_15 : decode cX12_full 15 = .ok (.invokestatic 53, 3) := by decide +kernel
theorem dX12_full_18 : decode cX12_full 18 = .ok (.ifCond .ne 6, 3) := by decide +kernel
theorem dX12_full_21 : decode cX12_full 21 = .ok (.bipush (-2), 2) := by decide +kernel
theorem dX12_full_23 : decode cX12_full 23 = .ok (.ireturn, 1) := by decide +kernel
theorem dX12_full_24 : decode cX12_full 24 = .ok (.iconst 0, 1) := by decide +kernel
theorem dX12_full_25 : decode cX12_full 25 = .ok (.istore_n 3, 1) := by decide +kernel
theorem dX12_full_26 : decode cX12_full 26 = .ok (.iconst (-1), 1) := by decide +kernel
theorem dX12_full_27 : decode cX12_full 27 = .ok (.istore 4, 2) := by decide +kernel
theorem dX12_full_29 : decode cX12_full 29 = .ok (.iconst 1, 1) := by decide +kernel
theorem dX12_full_30 : decode cX12_full 30 = .ok (.istore 5, 2) := by decide +kernel
theorem dX12_full_32 : decode cX12_full 32 = .ok (.iload 5, 2) := by decide +kernel
theorem dX12_full_34 : decode cX12_full 34 = .ok (.bipush 20, 2) := by decide +kernel
theorem dX12_full_36 : decode cX12_full 36 = .ok (.if_icmp .gt 49, 3) := by decide +kernel
theorem dX12_full_39 : decode cX12_full 39 = .ok (.aload_n 0, 1) := by decide +kernel
theorem dX12_full_40 : decode cX12_full 40 = .ok (.iload_n 1, 1) := by decide +kernel
theorem dX12_full_41 : decode cX12_full 41 = .ok (.iload 5, 2) := by decide +kernel
theorem dX12_full_43 : decode cX12_full 43 = .ok (.iload_n 2, 1) := by decide +kernel
theorem dX12_full_44 : decode cX12_full 44 = .ok (.invokevirtual 222, 3) := by decide +kernel
theorem dX12_full_47 : decode cX12_full 47 = .ok (.istore 6, 2) := by decide +kernel
theorem dX12_full_49 : decode cX12_full 49 = .ok (.iload 6, 2) := by decide +kernel
theorem dX12_full_51 : decode cX12_full 51 = .ok (.iload 4, 2) := by decide +kernel
theorem dX12_full_53 : decode cX12_full 53 = .ok (.if_icmp .le 8, 3) := by decide +kernel
theorem dX12_full_56 : decode cX12_full 56 = .ok (.iload 5, 2) := by decide +kernel
theorem dX12_full_58 : decode cX12_full 58 = .ok (.goto 4, 3) := by decide +kernel
theorem dX12_full_61 : decode cX12_full 61 = .ok (.iload_n 3, 1) := by decide +kernel
theorem dX12_full_62 : decode cX12_full 62 = .ok (.istore_n 3, 1) := by decide +kernel
theorem dX12_full_63 : decode cX12_full 63 = .ok (.iload 6, 2) := by decide +kernel
theorem dX12_full_65 : decode cX12_full 65 = .ok (.iload 4, 2) := by decide +kernel
theorem dX12_full_67 : decode cX12_full 67 = .ok (.if_icmp .le 8, 3) := by decide +kernel
theorem dX12_full_70 : decode cX12_full 70 = .ok (.iload 6, 2) := by decide +kernel
theorem dX12_full_72 : decode cX12_full 72 = .ok (.goto 5, 3) := by decide +kernel
theorem dX12_full_75 : decode cX12_full 75 = .ok (.iload 4, 2) := by decide +kernel
theorem dX12_full_77 : decode cX12_full 77 = .ok (.istore 4, 2) := by decide +kernel
theorem dX12_full_79 : decode cX12_full 79 = .ok (.iinc 5 1, 3) := by decide +kernel
theorem dX12_full_82 : decode cX12_full 82 = .ok (.goto (-50), 3) := by decide +kernel
theorem dX12_full_85 : decode cX12_full 85 = .ok (.iload_n 3, 1) := by decide +kernel
theorem dX12_full_86 : decode cX12_full 86 = .ok (.ireturn, 1) := by decide +kernel
set_option maxRecDepth 20000 in
theorem ggX12_oneRound_X12_keeps : GoodIn wsX12_oneRound wsX12_keeps := goodIn_r _ [6, 7, 8, 76, 77, 78, 79, 80, 81, 82, 83, 84, 85, 86, 87, 88, 89, 90, 91, 92, 93, 94, 95, 96, 97, 98, 99, 100, 101, 102, 103, 104, 105] (by decide +kernel) (by decide +kernel)
set_option maxRecDepth 20000 in
theorem gX12_oneRound_X12_keeps : GoodIn wsX12_oneRound (wsV RX12 213 RX12 yX12_keeps wsX12_keeps) := goodIn_app (goodIn_of _ (by decide +kernel)) ggX12_oneRound_X12_keeps
set_option maxRecDepth 20000 in
theorem ggX12_oneRound_X12_goes : GoodIn wsX12_oneRound wsX12_goes := goodIn_r _ [12, 13, 8, 14, 1, 15, 16, 17, 18, 5, 19, 20, 21, 22, 23, 24, 25, 26, 27, 28, 29, 30, 31, 32, 33, 34, 35, 36, 37, 38, 39, 40, 41, 42, 43, 44, 45, 46, 47, 48, 49, 50, 51, 52, 53, 54, 55, 56, 57, 58, 59, 60, 61, 62, 63, 64, 65, 66, 67, 68, 69, 70, 71, 76, 77, 78, 79, 80, 81, 82, 83, 84, 85, 86, 87, 88, 89, 90, 91, 92, 93, 94, 95, 96, 97, 98, 99, 100, 101, 102, 103, 104, 105] (by decide +kernel) (by decide +kernel)
set_option maxRecDepth 20000 in
theorem gX12_oneRound_X12_goes : GoodIn wsX12_oneRound (wsV RX12 209 RX12 yX12_goes wsX12_goes) := goodIn_app (goodIn_of _ (by decide +kernel)) ggX12_oneRound_X12_goes
set_option maxRecDepth 20000 in
theorem ggX12_oneRound_X12_goesBackTo : GoodIn wsX12_oneRound wsX12_goesBackTo := goodIn_r _ [75, 44, 8, 7, 76, 77, 78, 79, 80, 81, 82, 83, 84, 85, 86, 87, 88, 89, 90, 91, 92, 93, 94, 95, 96, 97, 98, 99, 100, 101, 102, 103, 104, 105] (by decide +kernel) (by decide +kernel)
set_option maxRecDepth 20000 in
theorem gX12_oneRound_X12_goesBackTo : GoodIn wsX12_oneRound (wsV RX12 216 RX12 yX12_goesBackTo wsX12_goesBackTo) := goodIn_app (goodIn_of _ (by decide +kernel)) ggX12_oneRound_X12_goesBackTo
theorem dX12_oneRound_0 : decode cX12_oneRound 0 = .ok (.aload_n 0, 1) := by decide +kernel
theorem dX12_oneRound_1 : decode cX12_oneRound 1 = .ok (.iconst 0, 1) := by decide +kernel
theorem dX12_oneRound_2 : decode cX12_oneRound 2 = .ok (.invokevirtual 213, 3) := by decide +kernel
theorem dX12_oneRound_5 : decode cX12_oneRound 5 = .ok (.aload_n 0, 1) := by decide +kernel
theorem dX12_oneRound_6 : decode cX12_oneRound 6 = .ok (.iload_n 1, 1) := by decide +kernel
theorem dX12_oneRound_7 : decode cX12_oneRound 7 = .ok (.iload_n 2, 1) := by decide +kernel
theorem dX12_oneRound_8 : decode cX12_oneRound 8 = .ok (.invokevirtual 209, 3) := by decide +kernel
theorem dX12_oneRound_11 : decode cX12_oneRound 11 = .ok (.aload_n 0, 1) := by decide +kernel
theorem dX12_oneRound_12 : decode cX12_oneRound 12 = .ok (.iconst 0, 1) := by decide +kernel
theorem dX12_oneRound_13 : decode cX12_oneRound 13 = .ok (.invokevirtual 216, 3) := by decide +kernel
theorem dX12_oneRound_16 : decode cX12_oneRound 16 = .ok (.aload_n 0, 1) := by decide +kernel
theorem dX12_oneRound_17 : decode cX12_oneRound 17 = .ok (.getfield 187, 3) := by decide +kernel
theorem dX12_oneRound_20 : decode cX12_oneRound 20 = .ok (.ireturn, 1) := by decide +kernel
theorem dX12_count1_0 : decode cX12_count1 0 = .ok (.iconst 0, 1) := by decide +kernel
theorem dX12_count1_1 : decode cX12_count1 1 = .ok (.istore_n 1, 1) := by decide +kernel
theorem dX12_count1_2 : decode cX12_count1 2 = .ok (.iconst 0, 1) := by decide +kernel
theorem dX12_count1_3 : decode cX12_count1 3 = .ok (.istore_n 2, 1) := by decide +kernel
theorem dX12_count1_4 : decode cX12_count1 4 = .ok (.iload_n 2, 1) := by decide +kernel
theorem dX12_count1_5 : decode cX12_count1 5 = .ok (.bipush 10, 2) := by decide +kernel
theorem dX12_count1_7 : decode cX12_count1 7 = .ok (.if_icmp .ge 17, 3) := by decide +kernel
theorem dX12_count1_10 : decode cX12_count1 10 = .ok (.iload_n 1, 1) := by decide +kernel
theorem dX12_count1_11 : decode cX12_count1 11 = .ok (.iload_n 0, 1) := by decide +kernel
theorem dX12_count1_12 : decode cX12_count1 12 = .ok (.iload_n 2, 1) := by decide +kernel
theorem dX12_count1_13 : decode cX12_count1 13 = .ok (.ishr, 1) := by decide +kernel
theorem dX12_count1_14 : decode cX12_count1 14 = .ok (.iconst 1, 1) := by decide +kernel
theorem dX12_count1_15 : decode cX12_count1 15 = .ok (.iand, 1) := by decide +kernel
theorem dX12_count1_16 : decode cX12_count1 16 = .ok (.iadd, 1) := by decide +kernel
theorem dX12_count1_17 : decode cX12_count1 17 = .ok (.istore_n 1, 1) := by decide +kernel
theorem dX12_count1_18 : decode cX12_count1 18 = .ok (.iinc 2 1, 3) := by decide +kernel
theorem dX12_count1_21 : decode cX12_count1 21 = .ok (.goto (-17), 3) := by decide +kernel
theorem dX12_count1_24 : decode cX12_count1 24 = .ok (.iload_n 1, 1) := by decide +kernel
theorem dX12_count1_25 : decode cX12_count1 25 = .ok (.ireturn, 1) := by decide +kernel
theorem dX12_bare_0 : decode cX12_bare 0 = .ok (.iconst 0, 1) := by decide +kernel
theorem dX12_bare_1 : decode cX12_bare 1 = .ok (.istore_n 1, 1) := by decide +kernel
theorem dX12_bare_2 : decode cX12_bare 2 = .ok (.iconst 0, 1) := by decide +kernel
theorem dX12_bare_3 : decode cX12_bare 3 = .ok (.istore_n 2, 1) := by decide +kernel
theorem dX12_bare_4 : decode cX12_bare 4 = .ok (.iload_n 2, 1) := by decide +kernel
theorem dX12_bare_5 : decode cX12_bare 5 = .ok (.bipush 10, 2) := by decide +kernel
theorem dX12_bare_7 : decode cX12_bare 7 = .ok (.if_icmp .ge 31, 3) := by decide +kernel
theorem dX12_bare_10 : decode cX12_bare 10 = .ok (.iload_n 1, 1) := by decide +kernel
theorem dX12_bare_11 : decode cX12_bare 11 = .ok (.aload_n 0, 1) := by decide +kernel
theorem dX12_bare_12 : decode cX12_bare 12 = .ok (.getfield 9, 3) := by decide +kernel
theorem dX12_bare_15 : decode cX12_bare 15 = .ok (.bipush 28, 2) := by decide +kernel
theorem dX12_bare_17 : decode cX12_bare 17 = .ok (.iload_n 2, 1) := by decide +kernel
theorem dX12_bare_18 : decode cX12_bare 18 = .ok (.iadd, 1) := by decide +kernel
theorem dX12_bare_19 : decode cX12_bare 19 = .ok (.iaload, 1) := by decide +kernel
theorem dX12_bare_20 : decode cX12_bare 20 = .ok (.ifCond .ne 9, 3) := by decide +kernel
theorem dX12_bare_23 : decode cX12_bare 23 = .ok (.iconst 1, 1) := by decide +kernel
theorem dX12_bare_24 : decode cX12_bare 24 = .ok (.iload_n 2, 1) := by decide +kernel
theorem dX12_bare_25 : decode cX12_bare 25 = .ok (.ishl, 1) := by decide +kernel
theorem dX12_bare_26 : decode cX12_bare 26 = .ok (.goto 4, 3) := by decide +kernel
theorem dX12_bare_29 : decode cX12_bare 29 = .ok (.iconst 0, 1) := by decide +kernel
theorem dX12_bare_30 : decode cX12_bare 30 = .ok (.ior, 1) := by decide +kernel
theorem dX12_bare_31 : decode cX12_bare 31 = .ok (.istore_n 1, 1) := by decide +kernel
theorem dX12_bare_32 : decode cX12_bare 32 = .ok (.iinc 2 1, 3) := by decide +kernel
theorem dX12_bare_35 : decode cX12_bare 35 = .ok (.goto (-31), 3) := by decide +kernel
theorem dX12_bare_38 : decode cX12_bare 38 = .ok (.iload_n 1, 1) := by decide +kernel
theorem dX12_bare_39 : decode cX12_bare 39 = .ok (.ireturn, 1) := by decide +kernel
set_option maxRecDepth 20000 in
theorem ggX12_withBoards_X12_oneRound : GoodIn wsX12_withBoards wsX12_oneRound := goodIn_r _ [7, 8, 9, 10, 11, 6, 12, 13, 1, 14, 15, 16, 17, 18, 19, 20, 21, 22, 23, 24, 25, 26, 27, 28, 29, 30, 31, 32, 33, 34, 35, 36, 37, 38, 39, 40, 41, 42, 43, 44, 45, 46, 47, 48, 2, 49, 50, 51, 52, 53, 54, 55, 56, 57, 58, 59, 60, 61, 62, 63, 64, 65, 66, 67, 68, 69, 70, 71, 72, 73, 74, 75, 76, 77, 78, 79, 80, 81, 82, 83, 84, 85, 86, 87, 88, 89, 90, 91, 92, 93, 94, 95, 96, 97, 98, 99, 100, 101, 102, 103, 104, 105, 106, 107, 108, 109] (by decide +kernel) (by decide +kernel)
set_option maxRecDepth 20000 in
theorem gX12_withBoards_X12_oneRound : GoodIn wsX12_withBoards (wsV RX12 225 RX12 yX12_oneRound wsX12_oneRound) := goodIn_app (goodIn_of _ (by decide +kernel)) ggX12_withBoards_X12_oneRound
theorem dX12_withBoards_0 : decode cX12_withBoards 0 = .ok (.iconst 0, 1) := by decide +kernel
theorem dX12_withBoards_1 : decode cX12_withBoards 1 = .ok (.istore 5, 2) := by decide +kernel
theorem dX12_withBoards_3 : decode cX12_withBoards 3 = .ok (.iload 5, 2) := by decide +kernel
theorem dX12_withBoards_5 : decode cX12_withBoards 5 = .ok (.bipush 10, 2) := by decide +kernel
theorem dX12_withBoards_7 : decode cX12_withBoards 7 = .ok (.if_icmp .ge 44, 3) := by decide +kernel
theorem dX12_withBoards_10 : decode cX12_withBoards 10 = .ok (.aload_n 0, 1) := by decide +kernel
theorem dX12_withBoards_11 : decode cX12_withBoards 11 = .ok (.getfield 9, 3) := by decide +kernel
theorem dX12_withBoards_14 : decode cX12_withBoards 14 = .ok (.bipush 28, 2) := by decide +kernel
theorem dX12_withBoards_16 : decode cX12_withBoards 16 = .ok (.iload 5, 2) := by decide +kernel
theorem dX12_withBoards_18 : decode cX12_withBoards 18 = .ok (.iadd, 1) := by decide +kernel
theorem dX12_withBoards_19 : decode cX12_withBoards 19 = .ok (.iload_n 3, 1) := by decide +kernel
theorem dX12_withBoards_20 : decode cX12_withBoards 20 = .ok (.iload 5, 2) := by decide +kernel
theorem dX12_withBoards_22 : decode cX12_withBoards 22 = .ok (.ishr, 1) := by decide +kernel
theorem dX12_withBoards_23 : decode cX12_withBoards 23 = .ok (.iconst 1, 1) := by decide +kernel
theorem dX12_withBoards_24 : decode cX12_withBoards 24 = .ok (.iand, 1) := by decide +kernel
theorem dX12_withBoards_25 : decode cX12_withBoards 25 = .ok (.iconst 1, 1) := by decide +kernel
theorem dX12_withBoards_26 : decode cX12_withBoards 26 = .ok (.if_icmp .ne 8, 3) := by decide +kernel
theorem dX12_withBoards_29 : decode cX12_withBoards 29 = .ok (.iload 4, 2) := by decide +kernel
theorem dX12_withBoards_31 : decode cX12_withBoards 31 = .ok (.goto 13, 3) := by decide +kernel
theorem dX12_withBoards_34 : decode cX12_withBoards 34 = .ok (.aload_n 0, 1) := by decide +kernel
theorem dX12_withBoards_35 : decode cX12_withBoards 35 = .ok (.getfield 9, 3) := by decide +kernel
theorem dX12_withBoards_38 : decode cX12_withBoards 38 = .ok (.bipush 28, 2) := by decide +kernel
theorem dX12_withBoards_40 : decode cX12_withBoards 40 = .ok (.iload 5, 2) := by decide +kernel
theorem dX12_withBoards_42 : decode cX12_withBoards 42 = .ok (.iadd, 1) := by decide +kernel
theorem dX12_withBoards_43 : decode cX12_withBoards 43 = .ok (.iaload, 1) := by decide +kernel
theorem dX12_withBoards_44 : decode cX12_withBoards 44 = .ok (.iastore, 1) := by decide +kernel
theorem dX12_withBoards_45 : decode cX12_withBoards 45 = .ok (.iinc 5 1, 3) := by decide +kernel
theorem dX12_withBoards_48 : decode cX12_withBoards 48 = .ok (.goto (-45), 3) := by decide +kernel
theorem dX12_withBoards_51 : decode cX12_withBoards 51 = .ok (.aload_n 0, 1) := by decide +kernel
