set_option maxRecDepth 20000 in
theorem ggX0_init_X2_init : GoodIn wsX0_init wsX2_init := goodIn_r _ [4, 5, 6, 7, 8, 9, 10, 11, 12, 13, 14, 15, 16, 17, 18, 19, 20, 21, 22, 23, 24, 25, 26, 27, 28, 29, 30, 31, 32, 33, 34, 35, 36, 37, 38, 39] (by decide +kernel) (by decide +kernel)
set_option maxRecDepth 20000 in
theorem gX0_init_X2_init : GoodIn wsX0_init (wsX2_init) := ggX0_init_X2_init
theorem dX0_init_0 : decode cX0_init 0 = .ok (.aload_n 0, 1) := by decide +kernel
theorem dX0_init_1 : decode cX0_init 1 = .ok (.iload_n 1, 1) := by decide +kernel
theorem dX0_init_2 : decode cX0_init 2 = .ok (.iload_n 2, 1) := by decide +kernel
theorem dX0_init_3 : decode cX0_init 3 = .ok (.iload_n 3, 1) := by decide +kernel
theorem dX0_init_4 : decode cX0_init 4 = .ok (.iload 4, 2) := by decide +kernel
theorem dX0_init_6 : decode cX0_init 6 = .ok (.invokespecial 1, 3) := by decide +kernel
theorem dX0_init_9 : decode cX0_init 9 = .ok (.return_, 1) := by decide +kernel
theorem dX0_heaps_0 : decode cX0_heaps 0 = .ok (.aload_n 0, 1) := by decide +kernel
theorem dX0_heaps_1 : decode cX0_heaps 1 = .ok (.getfield 7, 3) := by decide +kernel
theorem dX0_heaps_4 : decode cX0_heaps 4 = .ok (.ireturn, 1) := by decide +kernel
set_option maxRecDepth 20000 in
theorem ggX0_lifts_X2_lifts : GoodIn wsX0_lifts wsX2_lifts := goodIn_r _ [6, 7, 8, 9, 5, 10, 11, 12, 13, 14, 15, 16, 17, 18, 19, 20, 21, 22, 23, 24, 25, 26, 27, 28, 29, 30, 31, 32, 33, 34, 35, 36, 37, 38, 39, 40, 41, 42, 43, 44, 45, 46, 47, 48, 49, 50, 51, 52, 53, 54, 55, 56, 57, 58, 59, 60, 61, 62, 63, 64, 65, 66, 67, 68, 69, 70, 71, 72, 73, 74, 75, 76, 77, 78, 79, 80, 81, 82, 83, 84, 85, 86, 87, 88, 89, 90, 91, 92, 93, 94, 95, 96, 97, 98, 99, 100, 101, 102, 103, 104, 105, 106, 107, 108, 109, 110, 111, 112, 113, 114, 115, 116, 117, 118, 119, 120, 121] (by decide +kernel) (by decide +kernel)
set_option maxRecDepth 20000 in
theorem gX0_lifts_X2_lifts_s17 : GoodIn wsX0_lifts (va_wsSU RX0 17 yX2_lifts wsX2_lifts) := goodIn_app (goodIn_of _ (by decide +kernel)) ggX0_lifts_X2_lifts
theorem dX0_lifts_0 : decode cX0_lifts 0 = .ok (.aload_n 2, 1) := by decide +kernel
theorem dX0_lifts_1 : decode cX0_lifts 1 = .ok (.bipush 11, 2) := by decide +kernel
theorem dX0_lifts_3 : decode cX0_lifts 3 = .ok (.invokestatic 13, 3) := by decide +kernel
theorem dX0_lifts_6 : decode cX0_lifts 6 = .ok (.aload_n 0, 1) := by decide +kernel
theorem dX0_lifts_7 : decode cX0_lifts 7 = .ok (.iload_n 1, 1) := by decide +kernel
theorem dX0_lifts_8 : decode cX0_lifts 8 = .ok (.iconst 3, 1) := by decide +kernel
theorem dX0_lifts_9 : decode cX0_lifts 9 = .ok (.imul, 1) := by decide +kernel
theorem dX0_lifts_10 : decode cX0_lifts 10 = .ok (.aload_n 2, 1) := by decide +kernel
theorem dX0_lifts_11 : decode cX0_lifts 11 = .ok (.invokespecial 17, 3) := by decide +kernel
theorem dX0_lifts_14 : decode cX0_lifts 14 = .ok (.ireturn, 1) := by decide +kernel
set_option maxRecDepth 20000 in
theorem ggX1_init_X0_init : GoodIn wsX1_init wsX0_init := goodIn_r _ [4, 5, 6, 7, 8, 9, 10, 11, 12, 13, 14, 15, 16, 17, 18, 19, 20, 21, 22, 23, 24, 25, 26, 27, 28, 29, 30, 31, 32, 33, 34, 35, 36, 37, 38, 39, 40, 41, 42, 43] (by decide +kernel) (by decide +kernel)
set_option maxRecDepth 20000 in
theorem gX1_init_X0_init : GoodIn wsX1_init (wsX0_init) := ggX1_init_X0_init
theorem dX1_init_0 : decode cX1_init 0 = .ok (.aload_n 0, 1) := by decide +kernel
theorem dX1_init_1 : decode cX1_init 1 = .ok (.iload_n 1, 1) := by decide +kernel
theorem dX1_init_2 : decode cX1_init 2 = .ok (.iload_n 2, 1) := by decide +kernel
theorem dX1_init_3 : decode cX1_init 3 = .ok (.iload_n 3, 1) := by decide +kernel
theorem dX1_init_4 : decode cX1_init 4 = .ok (.iload 4, 2) := by decide +kernel
theorem dX1_init_6 : decode cX1_init 6 = .ok (.invokespecial 1, 3) := by decide +kernel
theorem dX1_init_9 : decode cX1_init 9 = .ok (.return_, 1) := by decide +kernel
theorem dX1_slops_0 : decode cX1_slops 0 = .ok (.iload_n 2, 1) := by decide +kernel
theorem dX1_slops_1 : decode cX1_slops 1 = .ok (.ifCond .le 10, 3) := by decide +kernel
theorem dX1_slops_4 : decode cX1_slops 4 = .ok (.aload_n 0, 1) := by decide +kernel
theorem dX1_slops_5 : decode cX1_slops 5 = .ok (.getfield 7, 3) := by decide +kernel
theorem dX1_slops_8 : decode cX1_slops 8 = .ok (.goto 4, 3) := by decide +kernel
theorem dX1_slops_11 : decode cX1_slops 11 = .ok (.iconst 0, 1) := by decide +kernel
theorem dX1_slops_12 : decode cX1_slops 12 = .ok (.ireturn, 1) := by decide +kernel
set_option maxRecDepth 20000 in
theorem ggX1_tires_X0_lifts : GoodIn wsX1_tires wsX0_lifts := goodIn_r _ [6, 7, 8, 9, 10, 11, 12, 13, 14, 15, 16, 17, 18, 19, 20, 21, 22, 23, 24, 25, 26, 27, 28, 29, 30, 31, 32, 33, 34, 35, 36, 37, 38, 39, 40, 41, 42, 43, 44, 45, 46, 47, 48, 49, 50, 51, 52, 53, 54, 55, 56, 57, 58, 59, 60, 61, 62, 63, 64, 65, 66, 67, 68, 69, 70, 71, 72, 73, 74, 75, 76, 77, 78, 79, 80, 81, 82, 83, 84, 85, 86, 87, 88, 89, 90, 91, 92, 93, 94, 95, 96, 97, 98, 99, 100, 101, 102, 103, 104, 105, 106, 107, 108, 109, 110, 111, 112, 113, 114, 115, 116, 117, 118, 119, 120, 121, 122, 123, 124, 125, 126, 127] (by decide +kernel) (by decide +kernel)
set_option maxRecDepth 20000 in
theorem gX1_tires_X0_lifts_u21X1 : GoodIn wsX1_tires (va_wsU RX1 21 RX1 "BarrowPlank$Full" ⟨"BarrowPlank$Heaped", "lifts", "(ILjava/util/List;)I"⟩ yX0_lifts wsX0_lifts) := goodIn_app (goodIn_of _ (by decide +kernel)) ggX1_tires_X0_lifts
theorem dX1_tires_0 : decode cX1_tires 0 = .ok (.aload_n 2, 1) := by decide +kernel
theorem dX1_tires_1 : decode cX1_tires 1 = .ok (.bipush 41, 2) := by decide +kernel
theorem dX1_tires_3 : decode cX1_tires 3 = .ok (.invokestatic 13, 3) := by decide +kernel
theorem dX1_tires_6 : decode cX1_tires 6 = .ok (.aload_n 0, 1) := by decide +kernel
theorem dX1_tires_7 : decode cX1_tires 7 = .ok (.iload_n 1, 1) := by decide +kernel
theorem dX1_tires_8 : decode cX1_tires 8 = .ok (.iconst 1, 1) := by decide +kernel
theorem dX1_tires_9 : decode cX1_tires 9 = .ok (.isub, 1) := by decide +kernel
theorem dX1_tires_10 : decode cX1_tires 10 = .ok (.aload_n 2, 1) := by decide +kernel
theorem dX1_tires_11 : decode cX1_tires 11 = .ok (.invokespecial 17, 3) := by decide +kernel
theorem dX1_tires_14 : decode cX1_tires 14 = .ok (.aload_n 0, 1) := by decide +kernel
theorem dX1_tires_15 : decode cX1_tires 15 = .ok (.iconst 2, 1) := by decide +kernel
theorem dX1_tires_16 : decode cX1_tires 16 = .ok (.aload_n 2, 1) := by decide +kernel
theorem dX1_tires_17 : decode cX1_tires 17 = .ok (.invokevirtual 21, 3) := by decide +kernel
theorem dX1_tires_20 : decode cX1_tires 20 = .ok (.iadd, 1) := by decide +kernel
theorem dX1_tires_21 : decode cX1_tires 21 = .ok (.ireturn, 1) := by decide +kernel
theorem dX2_init_0 : decode cX2_init 0 = .ok (.aload_n 0, 1) := by decide +kernel
theorem dX2_init_1 : decode cX2_init 1 = .ok (.invokespecial 3, 3) := by decide +kernel
theorem dX2_init_4 : decode cX2_init 4 = .ok (.aload_n 0, 1) := by decide +kernel
theorem dX2_init_5 : decode cX2_init 5 = .ok (.iload_n 1, 1) := by decide +kernel
theorem dX2_init_6 : decode cX2_init 6 = .ok (.putfield 9, 3) := by decide +kernel
theorem dX2_init_9 : decode cX2_init 9 = .ok (.aload_n 0, 1) := by decide +kernel
theorem dX2_init_10 : decode cX2_init 10 = .ok (.iload_n 2, 1) := by decide +kernel
theorem dX2_init_11 : decode cX2_init 11 = .ok (.putfield 15, 3) := by decide +kernel
theorem dX2_init_14 : decode cX2_init 14 = .ok (.aload_n 0, 1) := by decide +kernel
theorem dX2_init_15 : decode cX2_init 15 = .ok (.iload_n 3, 1) := by decide +kernel
theorem dX2_init_16 : decode cX2_init 16 = .ok (.putfield 18, 3) := by decide +kernel
theorem dX2_init_19 : decode cX2_init 19 = .ok (.aload_n 0, 1) := by decide +kernel
theorem dX2_init_20 : decode cX2_init 20 = .ok (.iload 4, 2) := by decide +kernel
theorem dX2_init_22 : decode cX2_init 22 = .ok (.putfield 21, 3) := by decide +kernel
theorem dX2_init_25 : decode cX2_init 25 = .ok (.return_, 1) := by decide +kernel
set_option maxRecDepth 20000 in
theorem ggX2_make_X0_init : GoodIn wsX2_make wsX0_init := goodIn_r _ [24, 25, 26, 21, 27, 28, 29, 30, 31, 32, 33, 34, 56, 57, 58, 59, 68, 69, 70, 71, 80, 81, 82, 83, 76, 77, 78, 79, 64, 65, 66, 67, 72, 73, 74, 75, 60, 61, 62, 63] (by decide +kernel) (by decide +kernel)
set_option maxRecDepth 20000 in
theorem gX2_make_X0_init : GoodIn wsX2_make (wsX0_init) := ggX2_make_X0_init
set_option maxRecDepth 20000 in
theorem ggX2_make_X9_init : GoodIn wsX2_make wsX9_init := goodIn_r _ [37, 38, 26, 21, 27, 28, 29, 30, 31, 32, 33, 34, 56, 57, 58, 59, 68, 69, 70, 71, 80, 81, 82, 83, 76, 77, 78, 79, 64, 65, 66, 67, 72, 73, 74, 75, 60, 61, 62, 63] (by decide +kernel) (by decide +kernel)
set_option maxRecDepth 20000 in
theorem gX2_make_X9_init : GoodIn wsX2_make (wsX9_init) := ggX2_make_X9_init
set_option maxRecDepth 20000 in
theorem ggX2_make_X6_init : GoodIn wsX2_make wsX6_init := goodIn_r _ [41, 42, 26, 21, 27, 28, 29, 30, 31, 32, 33, 34, 56, 57, 58, 59, 68, 69, 70, 71, 80, 81, 82, 83, 76, 77, 78, 79, 64, 65, 66, 67, 72, 73, 74, 75, 60, 61, 62, 63] (by decide +kernel) (by decide +kernel)
set_option maxRecDepth 20000 in
theorem gX2_make_X6_init : GoodIn wsX2_make (wsX6_init) := ggX2_make_X6_init
set_option maxRecDepth 20000 in
theorem ggX2_make_X1_init : GoodIn wsX2_make wsX1_init := goodIn_r _ [45, 46, 23, 3, 24, 25, 26, 21, 27, 28, 29, 30, 31, 32, 33, 34, 56, 57, 58, 59, 68, 69, 70, 71, 80, 81, 82, 83, 76, 77, 78, 79, 64, 65, 66, 67, 72, 73, 74, 75, 60, 61, 62, 63] (by decide +kernel) (by decide +kernel)
set_option maxRecDepth 20000 in
theorem gX2_make_X1_init : GoodIn wsX2_make (wsX1_init) := ggX2_make_X1_init
set_option maxRecDepth 20000 in
theorem ggX2_make_X7_init : GoodIn wsX2_make wsX7_init := goodIn_r _ [49, 50, 36, 6, 37, 38, 26, 21, 27, 28, 29, 30, 31, 32, 33, 34, 56, 57, 58, 59, 68, 69, 70, 71, 80, 81, 82, 83, 76, 77, 78, 79, 64, 65, 66, 67, 72, 73, 74, 75, 60, 61, 62, 63] (by decide +kernel) (by decide +kernel)
set_option maxRecDepth 20000 in
theorem gX2_make_X7_init : GoodIn wsX2_make (wsX7_init) := ggX2_make_X7_init
set_option maxRecDepth 20000 in
theorem ggX2_make_X3_init : GoodIn wsX2_make wsX3_init := goodIn_r _ [53, 54, 40, 9, 41, 42, 26, 21, 27, 28, 29, 30, 31, 32, 33, 34, 56, 57, 58, 59, 68, 69, 70, 71, 80, 81, 82, 83, 76, 77, 78, 79, 64, 65, 66, 67, 72, 73, 74, 75, 60, 61, 62, 63] (by decide +kernel) (by decide +kernel)
set_option maxRecDepth 20000 in
theorem gX2_make_X3_init : GoodIn wsX2_make (wsX3_init) := ggX2_make_X3_init
set_option maxRecDepth 20000 in
theorem ggX2_make_X2_init : GoodIn wsX2_make wsX2_init := goodIn_r _ [27, 28, 29, 30, 31, 32, 33, 34, 56, 57, 58, 59, 68, 69, 70, 71, 80, 81, 82, 83, 76, 77, 78, 79, 64, 65, 66, 67, 72, 73, 74, 75, 60, 61, 62, 63] (by decide +kernel) (by decide +kernel)
set_option maxRecDepth 20000 in
theorem gX2_make_X2_init : GoodIn wsX2_make (wsX2_init) := ggX2_make_X2_init
theorem dX2_make_0 : decode cX2_make 0 = .ok (.iload_n 0, 1) := by decide +kernel
theorem dX2_make_1 : decode cX2_make 1 = .ok (.tableswitch 111 1 6 #[39, 51, 63, 75, 87, 99], 39) := by decide +kernel
theorem dX2_make_40 : decode cX2_make 40 = .ok (.new 24, 3) := by decide +kernel
theorem dX2_make_43 : decode cX2_make 43 = .ok (.dup, 1) := by decide +kernel
theorem dX2_make_44 : decode cX2_make 44 = .ok (.iload_n 0, 1) := by decide +kernel
theorem dX2_make_45 : decode cX2_make 45 = .ok (.iload_n 1, 1) := by decide +kernel
theorem dX2_make_46 : decode cX2_make 46 = .ok (.iload_n 2, 1) := by decide +kernel
theorem dX2_make_47 : decode cX2_make 47 = .ok (.iload_n 3, 1) := by decide +kernel
theorem dX2_make_48 : decode cX2_make 48 = .ok (.invokespecial 26, 3) := by decide +kernel
theorem dX2_make_51 : decode cX2_make 51 = .ok (.areturn, 1) := by decide +kernel
theorem dX2_make_52 : decode cX2_make 52 = .ok (.new 29, 3) := by decide +kernel
theorem dX2_make_55 : decode cX2_make 55 = .ok (.dup, 1) := by decide +kernel
theorem dX2_make_56 : decode cX2_make 56 = .ok (.iload_n 0, 1) := by decide +kernel
theorem dX2_make_57 : decode cX2_make 57 = .ok (.iload_n 1, 1) := by decide +kernel
theorem dX2_make_58 : decode cX2_make 58 = .ok (.iload_n 2, 1) := by decide +kernel
theorem dX2_make_59 : decode cX2_make 59 = .ok (.iload_n 3, 1) := by decide +kernel
theorem dX2_make_60 : decode cX2_make 60 = .ok (.invokespecial 31, 3) := by decide +kernel
theorem dX2_make_63 : decode cX2_make 63 = .ok (.areturn, 1) := by decide +kernel
theorem dX2_make_64 : decode cX2_make 64 = .ok (.new 32, 3) := by decide +kernel
theorem dX2_make_67 : decode cX2_make 67 = .ok (.dup, 1) := by decide +kernel
theorem dX2_make_68 : decode cX2_make 68 = .ok (.iload_n 0, 1) := by decide +kernel
theorem dX2_make_69 : decode cX2_make 69 = .ok (.iload_n 1, 1) := by decide +kernel
theorem dX2_make_70 : decode cX2_make 70 = .ok (.iload_n 2, 1) := by decide +kernel
theorem dX2_make_71 : decode cX2_make 71 = .ok (.iload_n 3, 1) := by decide +kernel
theorem dX2_make_72 : decode cX2_make 72 = .ok (.invokespecial 34, 3) := by decide +kernel
theorem dX2_make_75 : decode cX2_make 75 = .ok (.areturn, 1) := by decide +kernel
theorem dX2_make_76 : decode cX2_make 76 = .ok (.new 35, 3) := by decide +kernel
theorem dX2_make_79 : decode cX2_make 79 = .ok (.dup, 1) := by decide +kernel
theorem dX2_make_80 : decode cX2_make 80 = .ok (.iload_n 0, 1) := by decide +kernel
theorem dX2_make_81 : decode cX2_make 81 = .ok (.iload_n 1, 1) := by decide +kernel
theorem dX2_make_82 : decode cX2_make 82 = .ok (.iload_n 2, 1) := by decide +kernel
theorem dX2_make_83 : decode cX2_make 83 = .ok (.iload_n 3, 1) := by decide +kernel
theorem dX2_make_84 : decode cX2_make 84 = .ok (.invokespecial 37, 3) := by decide +kernel
theorem dX2_make_87 : decode cX2_make 87 = .ok (.areturn, 1) := by decide +kernel
theorem dX2_make_88 : decode cX2_make 88 = .ok (.new 38, 3) := by decide +kernel
theorem dX2_make_91 : decode cX2_make 91 = .ok (.dup, 1) := by decide +kernel
theorem dX2_make_92 : decode cX2_make 92 = .ok (.iload_n 0, 1) := by decide +kernel
theorem dX2_make_93 : decode cX2_make 93 = .ok (.iload_n 1, 1) := by decide +kernel
theorem dX2_make_94 : decode cX2_make 94 = .ok (.iload_n 2, 1) := by decide +kernel
theorem dX2_make_95 : decode cX2_make 95 = .ok (.iload_n 3, 1) := by decide +kernel
theorem dX2_make_96 : decode cX2_make 96 = .ok (.invokespecial 40, 3) := by decide +kernel
theorem dX2_make_99 : decode cX2_make 99 = .ok (.areturn, 1) := by decide +kernel
theorem dX2_make_100 : decode cX2_make 100 = .ok (.new 41, 3) := by decide +kernel
theorem dX2_make_103 : decode cX2_make 103 = .ok (.dup, 1) := by decide +kernel
theorem dX2_make_104 : decode cX2_make 104 = .ok (.iload_n 0, 1) := by decide +kernel
theorem dX2_make_105 : decode cX2_make 105 = .ok (.iload_n 1, 1) := by decide +kernel
theorem dX2_make_106 : decode cX2_make 106 = .ok (.iload_n 2, 1) := by decide +kernel
theorem dX2_make_107 : decode cX2_make 107 = .ok (.iload_n 3, 1) := by decide +kernel
theorem dX2_make_108 : decode cX2_make 108 = .ok (.invokespecial 43, 3) := by decide +kernel
theorem dX2_make_111 : decode cX2_make 111 = .ok (.areturn, 1) := by decide +kernel
theorem dX2_make_112 : decode cX2_make 112 = .ok (.new 10, 3) := by decide +kernel
theorem dX2_make_115 : decode cX2_make 115 = .ok (.dup, 1) := by decide +kernel
theorem dX2_make_116 : decode cX2_make 116 = .ok (.iload_n 0, 1) := by decide +kernel
theorem dX2_make_117 : decode cX2_make 117 = .ok (.iload_n 1, 1) := by decide +kernel
theorem dX2_make_118 : decode cX2_make 118 = .ok (.iload_n 2, 1) := by decide +kernel
theorem dX2_make_119 : decode cX2_make 119 = .ok (.iload_n 3, 1) := by decide +kernel
theorem dX2_make_120 : decode cX2_make 120 = .ok (.invokespecial 44, 3) := by decide +kernel
theorem dX2_make_123 : decode cX2_make 123 = .ok (.areturn, 1) := by decide +kernel
theorem dX2_isUnder_0 : decode cX2_isUnder 0 = .ok (.iload_n 1, 1) := by decide +kernel
theorem dX2_isUnder_1 : decode cX2_isUnder 1 = .ok (.tableswitch 75 0 6 #[43, 45, 50, 55, 60, 65, 70], 43) := by decide +kernel
theorem dX2_isUnder_44 : decode cX2_isUnder 44 = .ok (.iconst 1, 1) := by decide +kernel
theorem dX2_isUnder_45 : decode cX2_isUnder 45 = .ok (.ireturn, 1) := by decide +kernel
theorem dX2_isUnder_46 : decode cX2_isUnder 46 = .ok (.aload_n 0, 1) := by decide +kernel
theorem dX2_isUnder_47 : decode cX2_isUnder 47 = .ok (.instanceof 24, 3) := by decide +kernel
theorem dX2_isUnder_50 : decode cX2_isUnder 50 = .ok (.ireturn, 1) := by decide +kernel
theorem dX2_isUnder_51 : decode cX2_isUnder 51 = .ok (.aload_n 0, 1) := by decide +kernel
theorem dX2_isUnder_52 : decode cX2_isUnder 52 = .ok (.instanceof 29, 3) := by decide +kernel
theorem dX2_isUnder_55 : decode cX2_isUnder 55 = .ok (.ireturn, 1) := by decide +kernel
theorem dX2_isUnder_56 : decode cX2_isUnder 56 = .ok (.aload_n 0, 1) := by decide +kernel
theorem dX2_isUnder_57 : decode cX2_isUnder 57 = .ok (.instanceof 32, 3) := by decide +kernel
theorem dX2_isUnder_60 : decode cX2_isUnder 60 = .ok (.ireturn, 1) := by decide +kernel
theorem dX2_isUnder_61 : decode cX2_isUnder 61 = .ok (.aload_n 0, 1) := by decide +kernel
theorem dX2_isUnder_62 : decode cX2_isUnder 62 = .ok (.instanceof 35, 3) := by decide +kernel
theorem dX2_isUnder_65 : decode cX2_isUnder 65 = .ok (.ireturn, 1) := by decide +kernel
theorem dX2_isUnder_66 : decode cX2_isUnder 66 = .ok (.aload_n 0, 1) := by decide +kernel
theorem dX2_isUnder_67 : decode cX2_isUnder 67 = .ok (.instanceof 38, 3) := by decide +kernel
theorem dX2_isUnder_70 : decode cX2_isUnder 70 = .ok (.ireturn, 1) := by decide +kernel
theorem dX2_isUnder_71 : decode cX2_isUnder 71 = .ok (.aload_n 0, 1) := by decide +kernel
theorem dX2_isUnder_72 : decode cX2_isUnder 72 = .ok (.instanceof 41, 3) := by decide +kernel
theorem dX2_isUnder_75 : decode cX2_isUnder 75 = .ok (.ireturn, 1) := by decide +kernel
theorem dX2_isUnder_76 : decode cX2_isUnder 76 = .ok (.iconst 0, 1) := by decide +kernel
theorem dX2_isUnder_77 : decode cX2_isUnder 77 = .ok (.ireturn, 1) := by decide +kernel
set_option maxRecDepth 20000 in
theorem ggX2_begin_Jx4a65c_size_8abf5 : GoodIn wsX2_begin wsJx4a65c_size_8abf5 := goodIn_r _ [5, 6, 80, 81, 82] (by decide +kernel) (by decide +kernel)
set_option maxRecDepth 20000 in
theorem gX2_begin_Jx4a65c_size_8abf5_f45Jx4a65c : GoodIn wsX2_begin (va_wsF RX2 45 RJx4a65c ⟨"java/util/List", "size", "()I"⟩ yJx4a65c_size_8abf5 wsJx4a65c_size_8abf5) := goodIn_app (goodIn_of _ (by decide +kernel)) ggX2_begin_Jx4a65c_size_8abf5
set_option maxRecDepth 20000 in
theorem ggX2_begin_J6_valueOf_2dffe : GoodIn wsX2_begin wsJ6_valueOf_2dffe := goodIn_r _ [10, 11, 12, 13, 14, 9, 15, 16, 17, 18, 19, 20, 21, 22, 23, 24, 25, 83] (by decide +kernel) (by decide +kernel)
set_option maxRecDepth 20000 in
theorem gX2_begin_J6_valueOf_2dffe : GoodIn wsX2_begin (va_wsS RX2 51 yJ6_valueOf_2dffe wsJ6_valueOf_2dffe) := goodIn_app (goodIn_of _ (by decide +kernel)) ggX2_begin_J6_valueOf_2dffe
set_option maxRecDepth 20000 in
theorem ggX2_begin_Jx4a65c_add_9ea2d : GoodIn wsX2_begin wsJx4a65c_add_9ea2d := goodIn_r _ [29, 30, 31, 32, 6, 33, 34, 35, 4, 36, 37, 38, 39, 40, 41, 42, 43, 44, 45, 46, 47, 48, 49, 50, 51, 52, 53, 54, 55, 56, 57, 58, 59, 60, 61, 62, 63, 64, 65, 66, 67, 68, 69, 70, 71, 72, 73, 74, 75, 76, 77, 78, 79, 80, 81, 82] (by decide +kernel) (by decide +kernel)
set_option maxRecDepth 20000 in
theorem gX2_begin_Jx4a65c_add_9ea2d_f57Jx4a65c : GoodIn wsX2_begin (va_wsF RX2 57 RJx4a65c ⟨"java/util/List", "add", "(Ljava/lang/Object;)Z"⟩ yJx4a65c_add_9ea2d wsJx4a65c_add_9ea2d) := goodIn_app (goodIn_of _ (by decide +kernel)) ggX2_begin_Jx4a65c_add_9ea2d
theorem dX2_begin_0 : decode cX2_begin 0 = .ok (.aload_n 0, 1) := by decide +kernel
theorem dX2_begin_1 : decode cX2_begin 1 = .ok (.invokeinterface 45 1, 5) := by decide +kernel
theorem dX2_begin_6 : decode cX2_begin 6 = .ok (.bipush 20, 2) := by decide +kernel
theorem dX2_begin_8 : decode cX2_begin 8 = .ok (.if_icmp .ge 14, 3) := by decide +kernel
theorem dX2_begin_11 : decode cX2_begin 11 = .ok (.aload_n 0, 1) := by decide +kernel
theorem dX2_begin_12 : decode cX2_begin 12 = .ok (.iload_n 1, 1) := by decide +kernel
theorem dX2_begin_13 : decode cX2_begin 13 = .ok (.invokestatic 51, 3) := by decide +kernel
theorem dX2_begin_16 : decode cX2_begin 16 = .ok (.invokeinterface 57 2, 5) := by decide +kernel
theorem dX2_begin_21 : decode cX2_begin 21 = .ok (.pop, 1) := by decide +kernel
theorem dX2_begin_22 : decode cX2_begin 22 = .ok (.return_, 1) := by decide +kernel
theorem dX2_heaps_0 : decode cX2_heaps 0 = .ok (.iconst 0, 1) := by decide +kernel
theorem dX2_heaps_1 : decode cX2_heaps 1 = .ok (.ireturn, 1) := by decide +kernel
theorem dX2_waits_0 : decode cX2_waits 0 = .ok (.iconst 0, 1) := by decide +kernel
theorem dX2_waits_1 : decode cX2_waits 1 = .ok (.ireturn, 1) := by decide +kernel
theorem dX2_drags_0 : decode cX2_drags 0 = .ok (.iconst 0, 1) := by decide +kernel
theorem dX2_drags_1 : decode cX2_drags 1 = .ok (.ireturn, 1) := by decide +kernel
theorem dX2_slips_0 : decode cX2_slips 0 = .ok (.iconst 0, 1) := by decide +kernel
theorem dX2_slips_1 : decode cX2_slips 1 = .ok (.ireturn, 1) := by decide +kernel
theorem dX2_slops_0 : decode cX2_slops 0 = .ok (.iconst 0, 1) := by decide +kernel
theorem dX2_slops_1 : decode cX2_slops 1 = .ok (.ireturn, 1) := by decide +kernel
theorem dX2_tips_0 : decode cX2_tips 0 = .ok (.iconst 0, 1) := by decide +kernel
theorem dX2_tips_1 : decode cX2_tips 1 = .ok (.ireturn, 1) := by decide +kernel
set_option maxRecDepth 20000 in
theorem ggX2_lifts_X2_begin : GoodIn wsX2_lifts wsX2_begin := goodIn_r _ [5, 6, 7, 8, 9, 10, 11, 12, 13, 14, 15, 16, 17, 18, 19, 20, 21, 22, 23, 24, 25, 26, 27, 28, 29, 30, 31, 32, 33, 34, 35, 36, 37, 38, 39, 40, 41, 42, 43, 44, 45, 46, 47, 48, 49, 50, 51, 52, 53, 54, 55, 56, 57, 58, 59, 60, 61, 62, 63, 64, 65, 66, 67, 68, 69, 70, 71, 72, 73, 74, 75, 76, 77, 78, 79, 80, 81, 82, 83, 84, 113, 114, 115, 116] (by decide +kernel) (by decide +kernel)
set_option maxRecDepth 20000 in
theorem gX2_lifts_X2_begin : GoodIn wsX2_lifts (va_wsS RX2 61 yX2_begin wsX2_begin) := goodIn_app (goodIn_of _ (by decide +kernel)) ggX2_lifts_X2_begin
theorem dX2_lifts_0 : decode cX2_lifts 0 = .ok (.aload_n 2, 1) := by decide +kernel
theorem dX2_lifts_1 : decode cX2_lifts 1 = .ok (.iconst 1, 1) := by decide +kernel
theorem dX2_lifts_2 : decode cX2_lifts 2 = .ok (.invokestatic 61, 3) := by decide +kernel
theorem dX2_lifts_5 : decode cX2_lifts 5 = .ok (.iload_n 1, 1) := by decide +kernel
theorem dX2_lifts_6 : decode cX2_lifts 6 = .ok (.aload_n 0, 1) := by decide +kernel
theorem dX2_lifts_7 : decode cX2_lifts 7 = .ok (.getfield 15, 3) := by decide +kernel
theorem dX2_lifts_10 : decode cX2_lifts 10 = .ok (.iadd, 1) := by decide +kernel
theorem dX2_lifts_11 : decode cX2_lifts 11 = .ok (.ireturn, 1) := by decide +kernel
set_option maxRecDepth 20000 in
theorem ggX2_goes_X2_begin : GoodIn wsX2_goes wsX2_begin := goodIn_r _ [5, 6, 7, 8, 9, 10, 11, 12, 13, 14, 15, 16, 17, 18, 19, 20, 21, 22, 23, 24, 25, 26, 27, 28, 29, 30, 31, 32, 33, 34, 35, 36, 37, 38, 39, 40, 41, 42, 43, 44, 45, 46, 47, 48, 49, 50, 51, 52, 53, 54, 55, 56, 57, 58, 59, 60, 61, 62, 63, 64, 65, 66, 67, 68, 69, 70, 71, 72, 73, 74, 75, 76, 77, 78, 79, 80, 81, 82, 83, 84, 137, 138, 139, 140] (by decide +kernel) (by decide +kernel)
set_option maxRecDepth 20000 in
theorem gX2_goes_X2_begin : GoodIn wsX2_goes (va_wsS RX2 61 yX2_begin wsX2_begin) := goodIn_app (goodIn_of _ (by decide +kernel)) ggX2_goes_X2_begin
set_option maxRecDepth 20000 in
theorem ggX2_goes_X0_lifts : GoodIn wsX2_goes wsX0_lifts := goodIn_r _ [91, 92, 86, 93, 94, 4, 95, 96, 2, 3, 5, 6, 7, 8, 9, 10, 11, 12, 13, 14, 15, 16, 17, 18, 19, 20, 21, 22, 23, 24, 25, 26, 27, 28, 29, 30, 31, 32, 33, 34, 35, 36, 37, 38, 39, 40, 41, 42, 43, 44, 45, 46, 47, 48, 49, 50, 51, 52, 53, 54, 55, 56, 57, 58, 59, 60, 61, 62, 63, 64, 65, 66, 67, 68, 69, 70, 71, 72, 73, 74, 75, 76, 77, 78, 79, 80, 81, 82, 83, 84, 109, 110, 111, 112, 113, 114, 115, 116, 117, 118, 119, 120, 121, 122, 123, 124, 125, 126, 127, 128, 129, 130, 131, 132, 133, 134, 135, 136, 137, 138, 139, 140] (by decide +kernel) (by decide +kernel)
set_option maxRecDepth 20000 in
theorem gX2_goes_X0_lifts_u65X0 : GoodIn wsX2_goes (va_wsO RX2 65 RX0 "BarrowPlank$Man" ⟨"BarrowPlank$Man", "lifts", "(ILjava/util/List;)I"⟩ yX0_lifts wsX0_lifts) := goodIn_app (goodIn_of _ (by decide +kernel)) ggX2_goes_X0_lifts
set_option maxRecDepth 20000 in
theorem gX2_goes_X0_lifts_u65X1 : GoodIn wsX2_goes (va_wsO RX2 65 RX1 "BarrowPlank$Man" ⟨"BarrowPlank$Man", "lifts", "(ILjava/util/List;)I"⟩ yX0_lifts wsX0_lifts) := goodIn_app (goodIn_of _ (by decide +kernel)) ggX2_goes_X0_lifts
set_option maxRecDepth 20000 in
theorem ggX2_goes_X2_lifts : GoodIn wsX2_goes wsX2_lifts := goodIn_r _ [95, 96, 2, 3, 4, 5, 6, 7, 8, 9, 10, 11, 12, 13, 14, 15, 16, 17, 18, 19, 20, 21, 22, 23, 24, 25, 26, 27, 28, 29, 30, 31, 32, 33, 34, 35, 36, 37, 38, 39, 40, 41, 42, 43, 44, 45, 46, 47, 48, 49, 50, 51, 52, 53, 54, 55, 56, 57, 58, 59, 60, 61, 62, 63, 64, 65, 66, 67, 68, 69, 70, 71, 72, 73, 74, 75, 76, 77, 78, 79, 80, 81, 82, 83, 84, 109, 110, 111, 112, 113, 114, 115, 116, 117, 118, 119, 120, 121, 122, 123, 124, 125, 126, 127, 128, 129, 130, 131, 132, 133, 134, 135, 136, 137, 138, 139, 140] (by decide +kernel) (by decide +kernel)
set_option maxRecDepth 20000 in
theorem gX2_goes_X2_lifts : GoodIn wsX2_goes (wsV RX2 65 RX2 yX2_lifts wsX2_lifts) := goodIn_app (goodIn_of _ (by decide +kernel)) ggX2_goes_X2_lifts
set_option maxRecDepth 20000 in
theorem gX2_goes_X2_lifts_u65X3 : GoodIn wsX2_goes (va_wsU RX2 65 RX3 "BarrowPlank$Man" ⟨"BarrowPlank$Man", "lifts", "(ILjava/util/List;)I"⟩ yX2_lifts wsX2_lifts) := goodIn_app (goodIn_of _ (by decide +kernel)) ggX2_goes_X2_lifts
set_option maxRecDepth 20000 in
theorem gX2_goes_X2_lifts_u65X6 : GoodIn wsX2_goes (va_wsU RX2 65 RX6 "BarrowPlank$Man" ⟨"BarrowPlank$Man", "lifts", "(ILjava/util/List;)I"⟩ yX2_lifts wsX2_lifts) := goodIn_app (goodIn_of _ (by decide +kernel)) ggX2_goes_X2_lifts
set_option maxRecDepth 20000 in
theorem ggX2_goes_X7_lifts : GoodIn wsX2_goes wsX7_lifts := goodIn_r _ [105, 106, 107, 109, 110, 111, 112, 113, 114, 115, 116, 117, 118, 119, 120, 121, 122, 123, 124, 125, 126, 127, 128, 129, 130, 131, 132, 133, 134, 135, 136] (by decide +kernel) (by decide +kernel)
set_option maxRecDepth 20000 in
theorem gX2_goes_X7_lifts_u65X7 : GoodIn wsX2_goes (va_wsO RX2 65 RX7 "BarrowPlank$Man" ⟨"BarrowPlank$Man", "lifts", "(ILjava/util/List;)I"⟩ yX7_lifts wsX7_lifts) := goodIn_app (goodIn_of _ (by decide +kernel)) ggX2_goes_X7_lifts
set_option maxRecDepth 20000 in
theorem gX2_goes_X2_lifts_u65X9 : GoodIn wsX2_goes (va_wsU RX2 65 RX9 "BarrowPlank$Man" ⟨"BarrowPlank$Man", "lifts", "(ILjava/util/List;)I"⟩ yX2_lifts wsX2_lifts) := goodIn_app (goodIn_of _ (by decide +kernel)) ggX2_goes_X2_lifts
theorem dX2_goes_0 : decode cX2_goes 0 = .ok (.aload_n 2, 1) := by decide +kernel
theorem dX2_goes_1 : decode cX2_goes 1 = .ok (.iconst 2, 1) := by decide +kernel
theorem dX2_goes_2 : decode cX2_goes 2 = .ok (.invokestatic 61, 3) := by decide +kernel
theorem dX2_goes_5 : decode cX2_goes 5 = .ok (.aload_n 0, 1) := by decide +kernel
theorem dX2_goes_6 : decode cX2_goes 6 = .ok (.iload_n 1, 1) := by decide +kernel
theorem dX2_goes_7 : decode cX2_goes 7 = .ok (.aload_n 2, 1) := by decide +kernel
theorem dX2_goes_8 : decode cX2_goes 8 = .ok (.invokevirtual 65, 3) := by decide +kernel
theorem dX2_goes_11 : decode cX2_goes 11 = .ok (.aload_n 0, 1) := by decide +kernel
theorem dX2_goes_12 : decode cX2_goes 12 = .ok (.getfield 18, 3) := by decide +kernel
theorem dX2_goes_15 : decode cX2_goes 15 = .ok (.isub, 1) := by decide +kernel
theorem dX2_goes_16 : decode cX2_goes 16 = .ok (.ireturn, 1) := by decide +kernel
set_option maxRecDepth 20000 in
theorem ggX2_tires_X2_begin : GoodIn wsX2_tires wsX2_begin := goodIn_r _ [4, 5, 6, 7, 8, 9, 10, 11, 12, 13, 14, 15, 16, 17, 18, 19, 20, 21, 22, 23, 24, 25, 26, 27, 28, 29, 30, 31, 32, 33, 34, 35, 36, 37, 38, 39, 40, 41, 42, 43, 44, 45, 46, 47, 48, 49, 50, 51, 52, 53, 54, 55, 56, 57, 58, 59, 60, 61, 62, 63, 64, 65, 66, 67, 68, 69, 70, 71, 72, 73, 74, 75, 76, 77, 78, 79, 80, 81, 82, 83, 132, 133, 134, 135] (by decide +kernel) (by decide +kernel)
set_option maxRecDepth 20000 in
theorem gX2_tires_X2_begin : GoodIn wsX2_tires (va_wsS RX2 61 yX2_begin wsX2_begin) := goodIn_app (goodIn_of _ (by decide +kernel)) ggX2_tires_X2_begin
set_option maxRecDepth 20000 in
theorem ggX2_tires_X2_goes : GoodIn wsX2_tires wsX2_goes := goodIn_r _ [88, 89, 1, 2, 3, 4, 5, 6, 7, 8, 9, 10, 11, 12, 13, 14, 15, 16, 17, 18, 19, 20, 21, 22, 23, 24, 25, 26, 27, 28, 29, 30, 31, 32, 33, 34, 35, 36, 37, 38, 39, 40, 41, 42, 43, 44, 45, 46, 47, 48, 49, 50, 51, 52, 53, 54, 55, 56, 57, 58, 59, 60, 61, 62, 63, 64, 65, 66, 67, 68, 69, 70, 71, 72, 73, 74, 75, 76, 77, 78, 79, 80, 81, 82, 83, 90, 91, 92, 93, 94, 95, 96, 97, 98, 99, 100, 101, 102, 103, 104, 105, 106, 107, 108, 109, 110, 111, 112, 113, 136, 137, 138, 139, 140, 141, 142, 143, 144, 145, 146, 147, 148, 149, 150, 151, 152, 153, 154, 155, 156, 157, 158, 159, 160, 161, 162, 163, 132, 133, 134, 135] (by decide +kernel) (by decide +kernel)
set_option maxRecDepth 20000 in
theorem gX2_tires_X2_goes_u69X0 : GoodIn wsX2_tires (va_wsU RX2 69 RX0 "BarrowPlank$Man" ⟨"BarrowPlank$Man", "goes", "(ILjava/util/List;)I"⟩ yX2_goes wsX2_goes) := goodIn_app (goodIn_of _ (by decide +kernel)) ggX2_tires_X2_goes
set_option maxRecDepth 20000 in
theorem gX2_tires_X2_goes_u69X1 : GoodIn wsX2_tires (va_wsU RX2 69 RX1 "BarrowPlank$Man" ⟨"BarrowPlank$Man", "goes", "(ILjava/util/List;)I"⟩ yX2_goes wsX2_goes) := goodIn_app (goodIn_of _ (by decide +kernel)) ggX2_tires_X2_goes
set_option maxRecDepth 20000 in
theorem gX2_tires_X2_goes : GoodIn wsX2_tires (wsV RX2 69 RX2 yX2_goes wsX2_goes) := goodIn_app (goodIn_of _ (by decide +kernel)) ggX2_tires_X2_goes
set_option maxRecDepth 20000 in
theorem ggX2_tires_X3_goes : GoodIn wsX2_tires wsX3_goes := goodIn_r _ [121, 122, 123, 136, 137, 138, 139, 140, 141, 142, 143, 144, 145, 146, 147, 148, 149, 150, 151, 152, 153, 154, 155, 156, 157, 158, 159, 160, 161, 162, 163] (by decide +kernel) (by decide +kernel)
set_option maxRecDepth 20000 in
theorem gX2_tires_X3_goes_u69X3 : GoodIn wsX2_tires (va_wsO RX2 69 RX3 "BarrowPlank$Man" ⟨"BarrowPlank$Man", "goes", "(ILjava/util/List;)I"⟩ yX3_goes wsX3_goes) := goodIn_app (goodIn_of _ (by decide +kernel)) ggX2_tires_X3_goes
set_option maxRecDepth 20000 in
theorem gX2_tires_X2_goes_u69X6 : GoodIn wsX2_tires (va_wsU RX2 69 RX6 "BarrowPlank$Man" ⟨"BarrowPlank$Man", "goes", "(ILjava/util/List;)I"⟩ yX2_goes wsX2_goes) := goodIn_app (goodIn_of _ (by decide +kernel)) ggX2_tires_X2_goes
set_option maxRecDepth 20000 in
theorem ggX2_tires_X9_goes : GoodIn wsX2_tires wsX9_goes := goodIn_r _ [128, 129, 85, 130, 87, 3, 88, 89, 1, 2, 4, 5, 6, 7, 8, 9, 10, 11, 12, 13, 14, 15, 16, 17, 18, 19, 20, 21, 22, 23, 24, 25, 26, 27, 28, 29, 30, 31, 32, 33, 34, 35, 36, 37, 38, 39, 40, 41, 42, 43, 44, 45, 46, 47, 48, 49, 50, 51, 52, 53, 54, 55, 56, 57, 58, 59, 60, 61, 62, 63, 64, 65, 66, 67, 68, 69, 70, 71, 72, 73, 74, 75, 76, 77, 78, 79, 80, 81, 82, 83, 90, 91, 92, 93, 94, 95, 96, 97, 98, 99, 100, 101, 102, 103, 104, 105, 106, 107, 108, 109, 110, 111, 112, 113, 136, 137, 138, 139, 140, 141, 142, 143, 144, 145, 146, 147, 148, 149, 150, 151, 152, 153, 154, 155, 156, 157, 158, 159, 160, 161, 162, 163, 132, 133, 134, 135] (by decide +kernel) (by decide +kernel)
set_option maxRecDepth 20000 in
theorem gX2_tires_X9_goes_u69X7 : GoodIn wsX2_tires (va_wsO RX2 69 RX7 "BarrowPlank$Man" ⟨"BarrowPlank$Man", "goes", "(ILjava/util/List;)I"⟩ yX9_goes wsX9_goes) := goodIn_app (goodIn_of _ (by decide +kernel)) ggX2_tires_X9_goes
set_option maxRecDepth 20000 in
theorem gX2_tires_X9_goes_u69X9 : GoodIn wsX2_tires (va_wsO RX2 69 RX9 "BarrowPlank$Man" ⟨"BarrowPlank$Man", "goes", "(ILjava/util/List;)I"⟩ yX9_goes wsX9_goes) := goodIn_app (goodIn_of _ (by decide +kernel)) ggX2_tires_X9_goes
theorem dX2_tires_0 : decode cX2_tires 0 = .ok (.aload_n 2, 1) := by decide +kernel
theorem dX2_tires_1 : decode cX2_tires 1 = .ok (.iconst 3, 1) := by decide +kernel
theorem dX2_tires_2 : decode cX2_tires 2 = .ok (.invokestatic 61, 3) := by decide +kernel
theorem dX2_tires_5 : decode cX2_tires 5 = .ok (.aload_n 0, 1) := by decide +kernel
theorem dX2_tires_6 : decode cX2_tires 6 = .ok (.iload_n 1, 1) := by decide +kernel
theorem dX2_tires_7 : decode cX2_tires 7 = .ok (.aload_n 2, 1) := by decide +kernel
theorem dX2_tires_8 : decode cX2_tires 8 = .ok (.invokevirtual 69, 3) := by decide +kernel
theorem dX2_tires_11 : decode cX2_tires 11 = .ok (.iconst 2, 1) := by decide +kernel
theorem dX2_tires_12 : decode cX2_tires 12 = .ok (.imul, 1) := by decide +kernel
theorem dX2_tires_13 : decode cX2_tires 13 = .ok (.ireturn, 1) := by decide +kernel
set_option maxRecDepth 20000 in
theorem ggX3_init_X6_init : GoodIn wsX3_init wsX6_init := goodIn_r _ [4, 5, 6, 7, 8, 9, 10, 11, 12, 13, 14, 15, 16, 17, 18, 19, 20, 21, 22, 23, 24, 25, 26, 27, 28, 29, 30, 31, 32, 33, 34, 35, 36, 37, 38, 39, 40, 41, 42, 43] (by decide +kernel) (by decide +kernel)
set_option maxRecDepth 20000 in
theorem gX3_init_X6_init : GoodIn wsX3_init (wsX6_init) := ggX3_init_X6_init
theorem dX3_init_0 : decode cX3_init 0 = .ok (.aload_n 0, 1) := by decide +kernel
theorem dX3_init_1 : decode cX3_init 1 = .ok (.iload_n 1, 1) := by decide +kernel
theorem dX3_init_2 : decode cX3_init 2 = .ok (.iload_n 2, 1) := by decide +kernel
theorem dX3_init_3 : decode cX3_init 3 = .ok (.iload_n 3, 1) := by decide +kernel
theorem dX3_init_4 : decode cX3_init 4 = .ok (.iload 4, 2) := by decide +kernel
theorem dX3_init_6 : decode cX3_init 6 = .ok (.invokespecial 1, 3) := by decide +kernel
theorem dX3_init_9 : decode cX3_init 9 = .ok (.return_, 1) := by decide +kernel
theorem dX3_isNarrow_0 : decode cX3_isNarrow 0 = .ok (.iload_n 1, 1) := by decide +kernel
theorem dX3_isNarrow_1 : decode cX3_isNarrow 1 = .ok (.ifCond .le 15, 3) := by decide +kernel
theorem dX3_isNarrow_4 : decode cX3_isNarrow 4 = .ok (.iload_n 1, 1) := by decide +kernel
theorem dX3_isNarrow_5 : decode cX3_isNarrow 5 = .ok (.aload_n 0, 1) := by decide +kernel
theorem dX3_isNarrow_6 : decode cX3_isNarrow 6 = .ok (.getfield 7, 3) := by decide +kernel
theorem dX3_isNarrow_9 : decode cX3_isNarrow 9 = .ok (.if_icmp .ge 7, 3) := by decide +kernel
theorem dX3_isNarrow_12 : decode cX3_isNarrow 12 = .ok (.iconst 1, 1) := by decide +kernel
theorem dX3_isNarrow_13 : decode cX3_isNarrow 13 = .ok (.goto 4, 3) := by decide +kernel
theorem dX3_isNarrow_16 : decode cX3_isNarrow 16 = .ok (.iconst 0, 1) := by decide +kernel
theorem dX3_isNarrow_17 : decode cX3_isNarrow 17 = .ok (.ireturn, 1) := by decide +kernel
set_option maxRecDepth 20000 in
theorem ggX3_slips_X3_isNarrow : GoodIn wsX3_slips wsX3_isNarrow := goodIn_r _ [5, 6, 7, 8, 9, 10, 11, 12, 13, 14, 15, 16, 17, 18, 19, 20, 21, 22, 23, 24, 25, 26, 27, 28, 29, 30, 31, 32, 33, 34, 35] (by decide +kernel) (by decide +kernel)
set_option maxRecDepth 20000 in
theorem gX3_slips_X3_isNarrow : GoodIn wsX3_slips (wsV RX3 13 RX3 yX3_isNarrow wsX3_isNarrow) := goodIn_app (goodIn_of _ (by decide +kernel)) ggX3_slips_X3_isNarrow
theorem dX3_slips_0 : decode cX3_slips 0 = .ok (.aload_n 0, 1) := by decide +kernel
theorem dX3_slips_1 : decode cX3_slips 1 = .ok (.iload_n 1, 1) := by decide +kernel
theorem dX3_slips_2 : decode cX3_slips 2 = .ok (.invokevirtual 13, 3) := by decide +kernel
theorem dX3_slips_5 : decode cX3_slips 5 = .ok (.ifCond .eq 8, 3) := by decide +kernel
theorem dX3_slips_8 : decode cX3_slips 8 = .ok (.bipush 20, 2) := by decide +kernel
theorem dX3_slips_10 : decode cX3_slips 10 = .ok (.goto 4, 3) := by decide +kernel
theorem dX3_slips_13 : decode cX3_slips 13 = .ok (.iconst 0, 1) := by decide +kernel
theorem dX3_slips_14 : decode cX3_slips 14 = .ok (.ireturn, 1) := by decide +kernel
set_option maxRecDepth 20000 in
theorem ggX3_tips_X3_isNarrow : GoodIn wsX3_tips wsX3_isNarrow := goodIn_r _ [5, 6, 7, 8, 9, 10, 11, 12, 13, 14, 15, 16, 17, 18, 19, 20, 21, 22, 23, 24, 25, 26, 27, 28, 29, 30, 31, 32, 33, 34, 35] (by decide +kernel) (by decide +kernel)
set_option maxRecDepth 20000 in
theorem gX3_tips_X3_isNarrow : GoodIn wsX3_tips (wsV RX3 13 RX3 yX3_isNarrow wsX3_isNarrow) := goodIn_app (goodIn_of _ (by decide +kernel)) ggX3_tips_X3_isNarrow
theorem dX3_tips_0 : decode cX3_tips 0 = .ok (.aload_n 0, 1) := by decide +kernel
theorem dX3_tips_1 : decode cX3_tips 1 = .ok (.iload_n 2, 1) := by decide +kernel
theorem dX3_tips_2 : decode cX3_tips 2 = .ok (.invokevirtual 13, 3) := by decide +kernel
theorem dX3_tips_5 : decode cX3_tips 5 = .ok (.ifCond .eq 9, 3) := by decide +kernel
theorem dX3_tips_8 : decode cX3_tips 8 = .ok (.iload_n 1, 1) := by decide +kernel
theorem dX3_tips_9 : decode cX3_tips 9 = .ok (.iconst 2, 1) := by decide +kernel
theorem dX3_tips_10 : decode cX3_tips 10 = .ok (.idiv, 1) := by decide +kernel
theorem dX3_tips_11 : decode cX3_tips 11 = .ok (.goto 4, 3) := by decide +kernel
theorem dX3_tips_14 : decode cX3_tips 14 = .ok (.iconst 0, 1) := by decide +kernel
theorem dX3_tips_15 : decode cX3_tips 15 = .ok (.ireturn, 1) := by decide +kernel
theorem dX3_goes_0 : decode cX3_goes 0 = .ok (.aload_n 2, 1) := by decide +kernel
theorem dX3_goes_1 : decode cX3_goes 1 = .ok (.bipush 61, 2) := by decide +kernel
theorem dX3_goes_3 : decode cX3_goes 3 = .ok (.invokestatic 17, 3) := by decide +kernel
theorem dX3_goes_6 : decode cX3_goes 6 = .ok (.aload_n 0, 1) := by decide +kernel
theorem dX3_goes_7 : decode cX3_goes 7 = .ok (.iload_n 1, 1) := by decide +kernel
theorem dX3_goes_8 : decode cX3_goes 8 = .ok (.aload_n 2, 1) := by decide +kernel
theorem dX3_goes_9 : decode cX3_goes 9 = .ok (.invokespecial 21, 3) := by decide +kernel
theorem dX3_goes_12 : decode cX3_goes 12 = .ok (.aload_n 0, 1) := by decide +kernel
theorem dX3_goes_13 : decode cX3_goes 13 = .ok (.getfield 7, 3) := by decide +kernel
theorem dX3_goes_16 : decode cX3_goes 16 = .ok (.iadd, 1) := by decide +kernel
theorem dX3_goes_17 : decode cX3_goes 17 = .ok (.ireturn, 1) := by decide +kernel
theorem dX4_init_0 : decode cX4_init 0 = .ok (.aload_n 0, 1) := by decide +kernel
theorem dX4_init_1 : decode cX4_init 1 = .ok (.invokespecial 3, 3) := by decide +kernel
theorem dX4_init_4 : decode cX4_init 4 = .ok (.aload_n 0, 1) := by decide +kernel
theorem dX4_init_5 : decode cX4_init 5 = .ok (.iconst 1, 1) := by decide +kernel
theorem dX4_init_6 : decode cX4_init 6 = .ok (.putfield 9, 3) := by decide +kernel
theorem dX4_init_9 : decode cX4_init 9 = .ok (.aload_n 0, 1) := by decide +kernel
theorem dX4_init_10 : decode cX4_init 10 = .ok (.iconst 2, 1) := by decide +kernel
theorem dX4_init_11 : decode cX4_init 11 = .ok (.putfield 15, 3) := by decide +kernel
theorem dX4_init_14 : decode cX4_init 14 = .ok (.aload_n 0, 1) := by decide +kernel
theorem dX4_init_15 : decode cX4_init 15 = .ok (.bipush 10, 2) := by decide +kernel
theorem dX4_init_17 : decode cX4_init 17 = .ok (.newarray .int, 2) := by decide +kernel
theorem dX4_init_19 : decode cX4_init 19 = .ok (.putfield 18, 3) := by decide +kernel
theorem dX4_init_22 : decode cX4_init 22 = .ok (.aload_n 0, 1) := by decide +kernel
theorem dX4_init_23 : decode cX4_init 23 = .ok (.bipush 10, 2) := by decide +kernel
theorem dX4_init_25 : decode cX4_init 25 = .ok (.newarray .int, 2) := by decide +kernel
theorem dX4_init_27 : decode cX4_init 27 = .ok (.putfield 22, 3) := by decide +kernel
theorem dX4_init_30 : decode cX4_init 30 = .ok (.aload_n 0, 1) := by decide +kernel
theorem dX4_init_31 : decode cX4_init 31 = .ok (.bipush 10, 2) := by decide +kernel
theorem dX4_init_33 : decode cX4_init 33 = .ok (.newarray .int, 2) := by decide +kernel
theorem dX4_init_35 : decode cX4_init 35 = .ok (.putfield 25, 3) := by decide +kernel
theorem dX4_init_38 : decode cX4_init 38 = .ok (.aload_n 0, 1) := by decide +kernel
theorem dX4_init_39 : decode cX4_init 39 = .ok (.bipush 100, 2) := by decide +kernel
theorem dX4_init_41 : decode cX4_init 41 = .ok (.newarray .int, 2) := by decide +kernel
theorem dX4_init_43 : decode cX4_init 43 = .ok (.putfield 28, 3) := by decide +kernel
theorem dX4_init_46 : decode cX4_init 46 = .ok (.return_, 1) := by decide +kernel
theorem dX4_word_0 : decode cX4_word 0 = .ok (.iload_n 0, 1) := by decide +kernel
theorem dX4_word_1 : decode cX4_word 1 = .ok (.tableswitch 43 0 3 #[31, 34, 37, 40], 31) := by decide +kernel
theorem dX4_word_32 : decode cX4_word 32 = .ok (.ldc 31, 2) := by decide +kernel
theorem dX4_word_34 : decode cX4_word 34 = .ok (.areturn, 1) := by decide +kernel
theorem dX4_word_35 : decode cX4_word 35 = .ok (.ldc 33, 2) := by decide +kernel
theorem dX4_word_37 : decode cX4_word 37 = .ok (.areturn, 1) := by decide +kernel
theorem dX4_word_38 : decode cX4_word 38 = .ok (.ldc 35, 2) := by decide +kernel
theorem dX4_word_40 : decode cX4_word 40 = .ok (.areturn, 1) := by decide +kernel
theorem dX4_word_41 : decode cX4_word 41 = .ok (.ldc 37, 2) := by decide +kernel
theorem dX4_word_43 : decode cX4_word 43 = .ok (.areturn, 1) := by decide +kernel
theorem dX4_word_44 : decode cX4_word 44 = .ok (.ldc 38, 2) := by decide +kernel
theorem dX4_word_46 : decode cX4_word 46 = .ok (.areturn, 1) := by decide +kernel
theorem dX4_hasCondition_0 : decode cX4_hasCondition 0 = .ok (.iload_n 0, 1) := by decide +kernel
theorem dX4_hasCondition_1 : decode cX4_hasCondition 1 = .ok (.ifCond .eq 13, 3) := by decide +kernel
theorem dX4_hasCondition_4 : decode cX4_hasCondition 4 = .ok (.iload_n 0, 1) := by decide +kernel
theorem dX4_hasCondition_5 : decode cX4_hasCondition 5 = .ok (.iconst 1, 1) := by decide +kernel
theorem dX4_hasCondition_6 : decode cX4_hasCondition 6 = .ok (.if_icmp .eq 8, 3) := by decide +kernel
theorem dX4_hasCondition_9 : decode cX4_hasCondition 9 = .ok (.iload_n 0, 1) := by decide +kernel
theorem dX4_hasCondition_10 : decode cX4_hasCondition 10 = .ok (.iconst 2, 1) := by decide +kernel
theorem dX4_hasCondition_11 : decode cX4_hasCondition 11 = .ok (.if_icmp .ne 7, 3) := by decide +kernel
theorem dX4_hasCondition_14 : decode cX4_hasCondition 14 = .ok (.iconst 1, 1) := by decide +kernel
theorem dX4_hasCondition_15 : decode cX4_hasCondition 15 = .ok (.goto 4, 3) := by decide +kernel
theorem dX4_hasCondition_18 : decode cX4_hasCondition 18 = .ok (.iconst 0, 1) := by decide +kernel
theorem dX4_hasCondition_19 : decode cX4_hasCondition 19 = .ok (.ireturn, 1) := by decide +kernel
theorem dX4_put_0 : decode cX4_put 0 = .ok (.aload_n 0, 1) := by decide +kernel
theorem dX4_put_1 : decode cX4_put 1 = .ok (.getfield 39, 3) := by decide +kernel
theorem dX4_put_4 : decode cX4_put 4 = .ok (.bipush 100, 2) := by decide +kernel
theorem dX4_put_6 : decode cX4_put 6 = .ok (.if_icmp .ge 23, 3) := by decide +kernel
theorem dX4_put_9 : decode cX4_put 9 = .ok (.aload_n 0, 1) := by decide +kernel
theorem dX4_put_10 : decode cX4_put 10 = .ok (.getfield 28, 3) := by decide +kernel
theorem dX4_put_13 : decode cX4_put 13 = .ok (.aload_n 0, 1) := by decide +kernel
theorem dX4_put_14 : decode cX4_put 14 = .ok (.getfield 39, 3) := by decide +kernel
theorem dX4_put_17 : decode cX4_put 17 = .ok (.iload_n 1, 1) := by decide +kernel
theorem dX4_put_18 : decode cX4_put 18 = .ok (.iastore, 1) := by decide +kernel
theorem dX4_put_19 : decode cX4_put 19 = .ok (.aload_n 0, 1) := by decide +kernel
theorem dX4_put_20 : decode cX4_put 20 = .ok (.dup, 1) := by decide +kernel
theorem dX4_put_21 : decode cX4_put 21 = .ok (.getfield 39, 3) := by decide +kernel
theorem dX4_put_24 : decode cX4_put 24 = .ok (.iconst 1, 1) := by decide +kernel
theorem dX4_put_25 : decode cX4_put 25 = .ok (.iadd, 1) := by decide +kernel
theorem dX4_put_26 : decode cX4_put 26 = .ok (.putfield 39, 3) := by decide +kernel
theorem dX4_put_29 : decode cX4_put 29 = .ok (.return_, 1) := by decide +kernel
set_option maxRecDepth 20000 in
theorem ggX4_putTest_X4_put : GoodIn wsX4_putTest wsX4_put := goodIn_r _ [5, 6, 7, 8, 9, 10, 11, 12, 13, 14, 15] (by decide +kernel) (by decide +kernel)
set_option maxRecDepth 20000 in
theorem gX4_putTest_X4_put : GoodIn wsX4_putTest (wsV RX4 42 RX4 yX4_put wsX4_put) := goodIn_app (goodIn_of _ (by decide +kernel)) ggX4_putTest_X4_put
theorem dX4_putTest_0 : decode cX4_putTest 0 = .ok (.aload_n 0, 1) := by decide +kernel
theorem dX4_putTest_1 : decode cX4_putTest 1 = .ok (.iload_n 1, 1) := by decide +kernel
theorem dX4_putTest_2 : decode cX4_putTest 2 = .ok (.iconst 3, 1) := by decide +kernel
theorem dX4_putTest_3 : decode cX4_putTest 3 = .ok (.imul, 1) := by decide +kernel
theorem dX4_putTest_4 : decode cX4_putTest 4 = .ok (.iload_n 2, 1) := by decide +kernel
theorem dX4_putTest_5 : decode cX4_putTest 5 = .ok (.iadd, 1) := by decide +kernel
theorem dX4_putTest_6 : decode cX4_putTest 6 = .ok (.bipush 100, 2) := by decide +kernel
theorem dX4_putTest_8 : decode cX4_putTest 8 = .ok (.imul, 1) := by decide +kernel
theorem dX4_putTest_9 : decode cX4_putTest 9 = .ok (.iload_n 3, 1) := by decide +kernel
theorem dX4_putTest_10 : decode cX4_putTest 10 = .ok (.iadd, 1) := by decide +kernel
theorem dX4_putTest_11 : decode cX4_putTest 11 = .ok (.invokevirtual 42, 3) := by decide +kernel
theorem dX4_putTest_14 : decode cX4_putTest 14 = .ok (.return_, 1) := by decide +kernel
theorem dX4_add_0 : decode cX4_add 0 = .ok (.iload_n 1, 1) := by decide +kernel
theorem dX4_add_1 : decode cX4_add 1 = .ok (.iconst 3, 1) := by decide +kernel
theorem dX4_add_2 : decode cX4_add 2 = .ok (.if_icmp .ne 11, 3) := by decide +kernel
theorem dX4_add_5 : decode cX4_add 5 = .ok (.aload_n 0, 1) := by decide +kernel
theorem dX4_add_6 : decode cX4_add 6 = .ok (.iload_n 2, 1) := by decide +kernel
theorem dX4_add_7 : decode cX4_add 7 = .ok (.putfield 9, 3) := by decide +kernel
theorem dX4_add_10 : decode cX4_add 10 = .ok (.goto 68, 3) := by decide +kernel
theorem dX4_add_13 : decode cX4_add 13 = .ok (.iload_n 1, 1) := by decide +kernel
theorem dX4_add_14 : decode cX4_add 14 = .ok (.iconst 4, 1) := by decide +kernel
theorem dX4_add_15 : decode cX4_add 15 = .ok (.if_icmp .ne 11, 3) := by decide +kernel
theorem dX4_add_18 : decode cX4_add 18 = .ok (.aload_n 0, 1) := by decide +kernel
theorem dX4_add_19 : decode cX4_add 19 = .ok (.iload_n 2, 1) := by decide +kernel
theorem dX4_add_20 : decode cX4_add 20 = .ok (.putfield 15, 3) := by decide +kernel
theorem dX4_add_23 : decode cX4_add 23 = .ok (.goto 55, 3) := by decide +kernel
theorem dX4_add_26 : decode cX4_add 26 = .ok (.aload_n 0, 1) := by decide +kernel
theorem dX4_add_27 : decode cX4_add 27 = .ok (.getfield 46, 3) := by decide +kernel
theorem dX4_add_30 : decode cX4_add 30 = .ok (.bipush 10, 2) := by decide +kernel
theorem dX4_add_32 : decode cX4_add 32 = .ok (.if_icmp .ge 46, 3) := by decide +kernel
theorem dX4_add_35 : decode cX4_add 35 = .ok (.aload_n 0, 1) := by decide +kernel
theorem dX4_add_36 : decode cX4_add 36 = .ok (.getfield 18, 3) := by decide +kernel
theorem dX4_add_39 : decode cX4_add 39 = .ok (.aload_n 0, 1) := by decide +kernel
theorem dX4_add_40 : decode cX4_add 40 = .ok (.getfield 46, 3) := by decide +kernel
theorem dX4_add_43 : decode cX4_add 43 = .ok (.iload_n 1, 1) := by decide +kernel
theorem dX4_add_44 : decode cX4_add 44 = .ok (.iastore, 1) := by decide +kernel
theorem dX4_add_45 : decode cX4_add 45 = .ok (.aload_n 0, 1) := by decide +kernel
theorem dX4_add_46 : decode cX4_add 46 = .ok (.getfield 22, 3) := by decide +kernel
theorem dX4_add_49 : decode cX4_add 49 = .ok (.aload_n 0, 1) := by decide +kernel
theorem dX4_add_50 : decode cX4_add 50 = .ok (.getfield 46, 3) := by decide +kernel
theorem dX4_add_53 : decode cX4_add 53 = .ok (.iload_n 2, 1) := by decide +kernel
theorem dX4_add_54 : decode cX4_add 54 = .ok (.iastore, 1) := by decide +kernel
theorem dX4_add_55 : decode cX4_add 55 = .ok (.aload_n 0, 1) := by decide +kernel
theorem dX4_add_56 : decode cX4_add 56 = .ok (.getfield 25, 3) := by decide +kernel
theorem dX4_add_59 : decode cX4_add 59 = .ok (.aload_n 0, 1) := by decide +kernel
theorem dX4_add_60 : decode cX4_add 60 = .ok (.getfield 46, 3) := by decide +kernel
theorem dX4_add_63 : decode cX4_add 63 = .ok (.aload_n 0, 1) := by decide +kernel
theorem dX4_add_64 : decode cX4_add 64 = .ok (.getfield 39, 3) := by decide +kernel
theorem dX4_add_67 : decode cX4_add 67 = .ok (.iastore, 1) := by decide +kernel
theorem dX4_add_68 : decode cX4_add 68 = .ok (.aload_n 0, 1) := by decide +kernel
theorem dX4_add_69 : decode cX4_add 69 = .ok (.dup, 1) := by decide +kernel
theorem dX4_add_70 : decode cX4_add 70 = .ok (.getfield 46, 3) := by decide +kernel
theorem dX4_add_73 : decode cX4_add 73 = .ok (.iconst 1, 1) := by decide +kernel
theorem dX4_add_74 : decode cX4_add 74 = .ok (.iadd, 1) := by decide +kernel
theorem dX4_add_75 : decode cX4_add 75 = .ok (.putfield 46, 3) := by decide +kernel
theorem dX4_add_78 : decode cX4_add 78 = .ok (.return_, 1) := by decide +kernel
set_option maxRecDepth 20000 in
theorem ggX4_slower_X4_holds : GoodIn wsX4_slower wsX4_holds := goodIn_r _ [8, 9, 10, 11, 12, 13, 14, 15, 16, 17, 18, 19, 20, 21, 22] (by decide +kernel) (by decide +kernel)
set_option maxRecDepth 20000 in
theorem gX4_slower_X4_holds : GoodIn wsX4_slower (wsV RX4 49 RX4 yX4_holds wsX4_holds) := goodIn_app (goodIn_of _ (by decide +kernel)) ggX4_slower_X4_holds
theorem dX4_slower_0 : decode cX4_slower 0 = .ok (.iconst 0, 1) := by decide +kernel
theorem dX4_slower_1 : decode cX4_slower 1 = .ok (.istore_n 2, 1) := by decide +kernel
theorem dX4_slower_2 : decode cX4_slower 2 = .ok (.iconst 0, 1) := by decide +kernel
theorem dX4_slower_3 : decode cX4_slower 3 = .ok (.istore_n 3, 1) := by decide +kernel
theorem dX4_slower_4 : decode cX4_slower 4 = .ok (.iload_n 3, 1) := by decide +kernel
theorem dX4_slower_5 : decode cX4_slower 5 = .ok (.aload_n 0, 1) := by decide +kernel
theorem dX4_slower_6 : decode cX4_slower 6 = .ok (.getfield 46, 3) := by decide +kernel
theorem dX4_slower_9 : decode cX4_slower 9 = .ok (.if_icmp .ge 56, 3) := by decide +kernel
theorem dX4_slower_12 : decode cX4_slower 12 = .ok (.aload_n 0, 1) := by decide +kernel
theorem dX4_slower_13 : decode cX4_slower 13 = .ok (.getfield 18, 3) := by decide +kernel
theorem dX4_slower_16 : decode cX4_slower 16 = .ok (.iload_n 3, 1) := by decide +kernel
theorem dX4_slower_17 : decode cX4_slower 17 = .ok (.iaload, 1) := by decide +kernel
theorem dX4_slower_18 : decode cX4_slower 18 = .ok (.iconst 2, 1) := by decide +kernel
theorem dX4_slower_19 : decode cX4_slower 19 = .ok (.if_icmp .eq 40, 3) := by decide +kernel
theorem dX4_slower_22 : decode cX4_slower 22 = .ok (.aload_n 0, 1) := by decide +kernel
theorem dX4_slower_23 : decode cX4_slower 23 = .ok (.iload_n 3, 1) := by decide +kernel
theorem dX4_slower_24 : decode cX4_slower 24 = .ok (.aload_n 1, 1) := by decide +kernel
theorem dX4_slower_25 : decode cX4_slower 25 = .ok (.invokevirtual 49, 3) := by decide +kernel
theorem dX4_slower_28 : decode cX4_slower 28 = .ok (.ifCond .eq 31, 3) := by decide +kernel
theorem dX4_slower_31 : decode cX4_slower 31 = .ok (.iload_n 2, 1) := by decide +kernel
theorem dX4_slower_32 : decode cX4_slower 32 = .ok (.aload_n 0, 1) := by decide +kernel
theorem dX4_slower_33 : decode cX4_slower 33 = .ok (.getfield 18, 3) := by decide +kernel
theorem dX4_slower_36 : decode cX4_slower 36 = .ok (.iload_n 3, 1) := by decide +kernel
theorem dX4_slower_37 : decode cX4_slower 37 = .ok (.iaload, 1) := by decide +kernel
theorem dX4_slower_38 : decode cX4_slower 38 = .ok (.ifCond .ne 12, 3) := by decide +kernel
theorem dX4_slower_41 : decode cX4_slower 41 = .ok (.aload_n 0, 1) := by decide +kernel
theorem dX4_slower_42 : decode cX4_slower 42 = .ok (.getfield 22, 3) := by decide +kernel
theorem dX4_slower_45 : decode cX4_slower 45 = .ok (.iload_n 3, 1) := by decide +kernel
theorem dX4_slower_46 : decode cX4_slower 46 = .ok (.iaload, 1) := by decide +kernel
theorem dX4_slower_47 : decode cX4_slower 47 = .ok (.goto 10, 3) := by decide +kernel
theorem dX4_slower_50 : decode cX4_slower 50 = .ok (.aload_n 0, 1) := by decide +kernel
theorem dX4_slower_51 : decode cX4_slower 51 = .ok (.getfield 22, 3) := by decide +kernel
theorem dX4_slower_54 : decode cX4_slower 54 = .ok (.iload_n 3, 1) := by decide +kernel
theorem dX4_slower_55 : decode cX4_slower 55 = .ok (.iaload, 1) := by decide +kernel
theorem dX4_slower_56 : decode cX4_slower 56 = .ok (.ineg, 1) := by decide +kernel
theorem dX4_slower_57 : decode cX4_slower 57 = .ok (.iadd, 1) := by decide +kernel
theorem dX4_slower_58 : decode cX4_slower 58 = .ok (.istore_n 2, 1) := by decide +kernel
theorem dX4_slower_59 : decode cX4_slower 59 = .ok (.iinc 3 1, 3) := by decide +kernel
theorem dX4_slower_62 : decode cX4_slower 62 = .ok (.goto (-58), 3) := by decide +kernel
theorem dX4_slower_65 : decode cX4_slower 65 = .ok (.iload_n 2, 1) := by decide +kernel
theorem dX4_slower_66 : decode cX4_slower 66 = .ok (.ireturn, 1) := by decide +kernel
set_option maxRecDepth 20000 in
theorem ggX4_lost_X4_holds : GoodIn wsX4_lost wsX4_holds := goodIn_r _ [8, 9, 10, 11, 12, 13, 14, 15, 16, 17, 18, 19, 20, 21, 22] (by decide +kernel) (by decide +kernel)
set_option maxRecDepth 20000 in
theorem gX4_lost_X4_holds : GoodIn wsX4_lost (wsV RX4 49 RX4 yX4_holds wsX4_holds) := goodIn_app (goodIn_of _ (by decide +kernel)) ggX4_lost_X4_holds
theorem dX4_lost_0 : decode cX4_lost 0 = .ok (.iconst 0, 1) := by decide +kernel
theorem dX4_lost_1 : decode cX4_lost 1 = .ok (.istore_n 2, 1) := by decide +kernel
theorem dX4_lost_2 : decode cX4_lost 2 = .ok (.iconst 0, 1) := by decide +kernel
theorem dX4_lost_3 : decode cX4_lost 3 = .ok (.istore_n 3, 1) := by decide +kernel
theorem dX4_lost_4 : decode cX4_lost 4 = .ok (.iload_n 3, 1) := by decide +kernel
theorem dX4_lost_5 : decode cX4_lost 5 = .ok (.aload_n 0, 1) := by decide +kernel
theorem dX4_lost_6 : decode cX4_lost 6 = .ok (.getfield 46, 3) := by decide +kernel
theorem dX4_lost_9 : decode cX4_lost 9 = .ok (.if_icmp .ge 37, 3) := by decide +kernel
theorem dX4_lost_12 : decode cX4_lost 12 = .ok (.aload_n 0, 1) := by decide +kernel
theorem dX4_lost_13 : decode cX4_lost 13 = .ok (.getfield 18, 3) := by decide +kernel
theorem dX4_lost_16 : decode cX4_lost 16 = .ok (.iload_n 3, 1) := by decide +kernel
theorem dX4_lost_17 : decode cX4_lost 17 = .ok (.iaload, 1) := by decide +kernel
theorem dX4_lost_18 : decode cX4_lost 18 = .ok (.iconst 2, 1) := by decide +kernel
theorem dX4_lost_19 : decode cX4_lost 19 = .ok (.if_icmp .ne 21, 3) := by decide +kernel
theorem dX4_lost_22 : decode cX4_lost 22 = .ok (.aload_n 0, 1) := by decide +kernel
theorem dX4_lost_23 : decode cX4_lost 23 = .ok (.iload_n 3, 1) := by decide +kernel
theorem dX4_lost_24 : decode cX4_lost 24 = .ok (.aload_n 1, 1) := by decide +kernel
theorem dX4_lost_25 : decode cX4_lost 25 = .ok (.invokevirtual 49, 3) := by decide +kernel
theorem dX4_lost_28 : decode cX4_lost 28 = .ok (.ifCond .eq 12, 3) := by decide +kernel
theorem dX4_lost_31 : decode cX4_lost 31 = .ok (.iload_n 2, 1) := by decide +kernel
theorem dX4_lost_32 : decode cX4_lost 32 = .ok (.aload_n 0, 1) := by decide +kernel
theorem dX4_lost_33 : decode cX4_lost 33 = .ok (.getfield 22, 3) := by decide +kernel
theorem dX4_lost_36 : decode cX4_lost 36 = .ok (.iload_n 3, 1) := by decide +kernel
theorem dX4_lost_37 : decode cX4_lost 37 = .ok (.iaload, 1) := by decide +kernel
theorem dX4_lost_38 : decode cX4_lost 38 = .ok (.iadd, 1) := by decide +kernel
theorem dX4_lost_39 : decode cX4_lost 39 = .ok (.istore_n 2, 1) := by decide +kernel
theorem dX4_lost_40 : decode cX4_lost 40 = .ok (.iinc 3 1, 3) := by decide +kernel
theorem dX4_lost_43 : decode cX4_lost 43 = .ok (.goto (-39), 3) := by decide +kernel
theorem dX4_lost_46 : decode cX4_lost 46 = .ok (.iload_n 2, 1) := by decide +kernel
theorem dX4_lost_47 : decode cX4_lost 47 = .ok (.ireturn, 1) := by decide +kernel
set_option maxRecDepth 20000 in
theorem ggX4_holds_J6_compare_7cf53 : GoodIn wsX4_holds wsJ6_compare_7cf53 := goodIn_r _ [6] (by decide +kernel) (by decide +kernel)
set_option maxRecDepth 20000 in
theorem gX4_holds_J6_compare_7cf53 : GoodIn wsX4_holds (va_wsS RX4 53 yJ6_compare_7cf53 wsJ6_compare_7cf53) := goodIn_app (goodIn_of _ (by decide +kernel)) ggX4_holds_J6_compare_7cf53
theorem dX4_holds_0 : decode cX4_holds 0 = .ok (.iconst 0, 1) := by decide +kernel
theorem dX4_holds_1 : decode cX4_holds 1 = .ok (.istore_n 3, 1) := by decide +kernel
theorem dX4_holds_2 : decode cX4_holds 2 = .ok (.iload_n 1, 1) := by decide +kernel
theorem dX4_holds_3 : decode cX4_holds 3 = .ok (.ifCond .ne 7, 3) := by decide +kernel
theorem dX4_holds_6 : decode cX4_holds 6 = .ok (.iconst 0, 1) := by decide +kernel
theorem dX4_holds_7 : decode cX4_holds 7 = .ok (.goto 11, 3) := by decide +kernel
theorem dX4_holds_10 : decode cX4_holds 10 = .ok (.aload_n 0, 1) := by decide +kernel
theorem dX4_holds_11 : decode cX4_holds 11 = .ok (.getfield 25, 3) := by decide +kernel
theorem dX4_holds_14 : decode cX4_holds 14 = .ok (.iload_n 1, 1) := by decide +kernel
theorem dX4_holds_15 : decode cX4_holds 15 = .ok (.iconst 1, 1) := by decide +kernel
theorem dX4_holds_16 : decode cX4_holds 16 = .ok (.isub, 1) := by decide +kernel
theorem dX4_holds_17 : decode cX4_holds 17 = .ok (.iaload, 1) := by decide +kernel
theorem dX4_holds_18 : decode cX4_holds 18 = .ok (.istore 4, 2) := by decide +kernel
theorem dX4_holds_20 : decode cX4_holds 20 = .ok (.iload 4, 2) := by decide +kernel
theorem dX4_holds_22 : decode cX4_holds 22 = .ok (.aload_n 0, 1) := by decide +kernel
theorem dX4_holds_23 : decode cX4_holds 23 = .ok (.getfield 25, 3) := by decide +kernel
theorem dX4_holds_26 : decode cX4_holds 26 = .ok (.iload_n 1, 1) := by decide +kernel
theorem dX4_holds_27 : decode cX4_holds 27 = .ok (.iaload, 1) := by decide +kernel
theorem dX4_holds_28 : decode cX4_holds 28 = .ok (.if_icmp .ge 117, 3) := by decide +kernel
theorem dX4_holds_31 : decode cX4_holds 31 = .ok (.aload_n 0, 1) := by decide +kernel
theorem dX4_holds_32 : decode cX4_holds 32 = .ok (.getfield 28, 3) := by decide +kernel
theorem dX4_holds_35 : decode cX4_holds 35 = .ok (.iload 4, 2) := by decide +kernel
theorem dX4_holds_37 : decode cX4_holds 37 = .ok (.iaload, 1) := by decide +kernel
theorem dX4_holds_38 : decode cX4_holds 38 = .ok (.istore 5, 2) := by decide +kernel
theorem dX4_holds_40 : decode cX4_holds 40 = .ok (.iload_n 3, 1) := by decide +kernel
theorem dX4_holds_41 : decode cX4_holds 41 = .ok (.iconst 1, 1) := by decide +kernel
theorem dX4_holds_42 : decode cX4_holds 42 = .ok (.iand, 1) := by decide +kernel
theorem dX4_holds_43 : decode cX4_holds 43 = .ok (.istore 6, 2) := by decide +kernel
theorem dX4_holds_45 : decode cX4_holds 45 = .ok (.iload 5, 2) := by decide +kernel
theorem dX4_holds_47 : decode cX4_holds 47 = .ok (.iconst (-1), 1) := by decide +kernel
theorem dX4_holds_48 : decode cX4_holds 48 = .ok (.if_icmp .ne 10, 3) := by decide +kernel
theorem dX4_holds_51 : decode cX4_holds 51 = .ok (.iload_n 3, 1) := by decide +kernel
theorem dX4_holds_52 : decode cX4_holds 52 = .ok (.iconst 1, 1) := by decide +kernel
theorem dX4_holds_53 : decode cX4_holds 53 = .ok (.ixor, 1) := by decide +kernel
theorem dX4_holds_54 : decode cX4_holds 54 = .ok (.istore_n 3, 1) := by decide +kernel
theorem dX4_holds_55 : decode cX4_holds 55 = .ok (.goto 84, 3) := by decide +kernel
theorem dX4_holds_58 : decode cX4_holds 58 = .ok (.iload 5, 2) := by decide +kernel
theorem dX4_holds_60 : decode cX4_holds 60 = .ok (.bipush (-2), 2) := by decide +kernel
theorem dX4_holds_62 : decode cX4_holds 62 = .ok (.if_icmp .ne 16, 3) := by decide +kernel
theorem dX4_holds_65 : decode cX4_holds 65 = .ok (.iload_n 3, 1) := by decide +kernel
theorem dX4_holds_66 : decode cX4_holds 66 = .ok (.iconst 1, 1) := by decide +kernel
theorem dX4_holds_67 : decode cX4_holds 67 = .ok (.ishr, 1) := by decide +kernel
theorem dX4_holds_68 : decode cX4_holds 68 = .ok (.iload 6, 2) := by decide +kernel
theorem dX4_holds_70 : decode cX4_holds 70 = .ok (.bipush (-2), 2) := by decide +kernel
theorem dX4_holds_72 : decode cX4_holds 72 = .ok (.ior, 1) := by decide +kernel
theorem dX4_holds_73 : decode cX4_holds 73 = .ok (.iand, 1) := by decide +kernel
theorem dX4_holds_74 : decode cX4_holds 74 = .ok (.istore_n 3, 1) := by decide +kernel
theorem dX4_holds_75 : decode cX4_holds 75 = .ok (.goto 64, 3) := by decide +kernel
theorem dX4_holds_78 : decode cX4_holds 78 = .ok (.iload 5, 2) := by decide +kernel
theorem dX4_holds_80 : decode cX4_holds 80 = .ok (.bipush (-3), 2) := by decide +kernel
theorem dX4_holds_82 : decode cX4_holds 82 = .ok (.if_icmp .ne 13, 3) := by decide +kernel
theorem dX4_holds_85 : decode cX4_holds 85 = .ok (.iload_n 3, 1) := by decide +kernel
theorem dX4_holds_86 : decode cX4_holds 86 = .ok (.iconst 1, 1) := by decide +kernel
theorem dX4_holds_87 : decode cX4_holds 87 = .ok (.ishr, 1) := by decide +kernel
theorem dX4_holds_88 : decode cX4_holds 88 = .ok (.iload 6, 2) := by decide +kernel
theorem dX4_holds_90 : decode cX4_holds 90 = .ok (.ior, 1) := by decide +kernel
theorem dX4_holds_91 : decode cX4_holds 91 = .ok (.istore_n 3, 1) := by decide +kernel
theorem dX4_holds_92 : decode cX4_holds 92 = .ok (.goto 47, 3) := by decide +kernel
theorem dX4_holds_95 : decode cX4_holds 95 = .ok (.iload 5, 2) := by decide +kernel
theorem dX4_holds_97 : decode cX4_holds 97 = .ok (.bipush 100, 2) := by decide +kernel
theorem dX4_holds_99 : decode cX4_holds 99 = .ok (.idiv, 1) := by decide +kernel
theorem dX4_holds_100 : decode cX4_holds 100 = .ok (.istore 7, 2) := by decide +kernel
theorem dX4_holds_102 : decode cX4_holds 102 = .ok (.aload_n 2, 1) := by decide +kernel
theorem dX4_holds_103 : decode cX4_holds 103 = .ok (.iload 7, 2) := by decide +kernel
theorem dX4_holds_105 : decode cX4_holds 105 = .ok (.iconst 3, 1) := by decide +kernel
theorem dX4_holds_106 : decode cX4_holds 106 = .ok (.idiv, 1) := by decide +kernel
theorem dX4_holds_107 : decode cX4_holds 107 = .ok (.iaload, 1) := by decide +kernel
theorem dX4_holds_108 : decode cX4_holds 108 = .ok (.iload 5, 2) := by decide +kernel
theorem dX4_holds_110 : decode cX4_holds 110 = .ok (.bipush 100, 2) := by decide +kernel
theorem dX4_holds_112 : decode cX4_holds 112 = .ok (.irem, 1) := by decide +kernel
theorem dX4_holds_113 : decode cX4_holds 113 = .ok (.invokestatic 53, 3) := by decide +kernel
theorem dX4_holds_116 : decode cX4_holds 116 = .ok (.istore 8, 2) := by decide +kernel
theorem dX4_holds_118 : decode cX4_holds 118 = .ok (.iload_n 3, 1) := by decide +kernel
theorem dX4_holds_119 : decode cX4_holds 119 = .ok (.iconst 1, 1) := by decide +kernel
theorem dX4_holds_120 : decode cX4_holds 120 = .ok (.ishl, 1) := by decide +kernel
theorem dX4_holds_121 : decode cX4_holds 121 = .ok (.iload 8, 2) := by decide +kernel
theorem dX4_holds_123 : decode cX4_holds 123 = .ok (.iload 7, 2) := by decide +kernel
theorem dX4_holds_125 : decode cX4_holds 125 = .ok (.iconst 3, 1) := by decide +kernel
theorem dX4_holds_126 : decode cX4_holds 126 = .ok (.irem, 1) := by decide +kernel
theorem dX4_holds_127 : decode cX4_holds 127 = .ok (.iconst 1, 1) := by decide +kernel
theorem dX4_holds_128 : decode cX4_holds 128 = .ok (.isub, 1) := by decide +kernel
theorem dX4_holds_129 : decode cX4_holds 129 = .ok (.if_icmp .ne 7, 3) := by decide +kernel
theorem dX4_holds_132 : decode cX4_holds 132 = .ok (.iconst 1, 1) := by decide +kernel
theorem dX4_holds_133 : decode cX4_holds 133 = .ok (.goto 4, 3) := by decide +kernel
theorem dX4_holds_136 : decode cX4_holds 136 = .ok (.iconst 0, 1) := by decide +kernel
theorem dX4_holds_137 : decode cX4_holds 137 = .ok (.ior, 1) := by decide +kernel
theorem dX4_holds_138 : decode cX4_holds 138 = .ok (.istore_n 3, 1) := by decide +kernel
theorem dX4_holds_139 : decode cX4_holds 139 = .ok (.iinc 4 1, 3) := by decide +kernel
theorem dX4_holds_142 : decode cX4_holds 142 = .ok (.goto (-122), 3) := by decide +kernel
theorem dX4_holds_145 : decode cX4_holds 145 = .ok (.iload_n 3, 1) := by decide +kernel
theorem dX4_holds_146 : decode cX4_holds 146 = .ok (.iconst 1, 1) := by decide +kernel
theorem dX4_holds_147 : decode cX4_holds 147 = .ok (.iand, 1) := by decide +kernel
theorem dX4_holds_148 : decode cX4_holds 148 = .ok (.iconst 1, 1) := by decide +kernel
theorem dX4_holds_149 : decode cX4_holds 149 = .ok (.if_icmp .ne 7, 3) := by decide +kernel
theorem dX4_holds_152 : decode cX4_holds 152 = .ok (.iconst 1, 1) := by decide +kernel
theorem dX4_holds_153 : decode cX4_holds 153 = .ok (.goto 4, 3) := by decide +kernel
theorem dX4_holds_156 : decode cX4_holds 156 = .ok (.iconst 0, 1) := by decide +kernel
theorem dX4_holds_157 : decode cX4_holds 157 = .ok (.ireturn, 1) := by decide +kernel
theorem dX5_init_0 : decode cX5_init 0 = .ok (.aload_n 0, 1) := by decide +kernel
theorem dX5_init_1 : decode cX5_init 1 = .ok (.invokespecial 3, 3) := by decide +kernel
theorem dX5_init_4 : decode cX5_init 4 = .ok (.return_, 1) := by decide +kernel
set_option maxRecDepth 20000 in
theorem ggX5_read_X4_init : GoodIn wsX5_read wsX4_init := goodIn_r _ [13, 14, 15, 16, 17, 18, 19, 20, 21, 22, 23, 194, 195, 196, 197, 198, 199, 200, 201] (by decide +kernel) (by decide +kernel)
set_option maxRecDepth 20000 in
theorem gX5_read_X4_init_n30 : GoodIn wsX5_read (wsX4_init) := ggX5_read_X4_init
set_option maxRecDepth 20000 in
theorem ggX5_read_X5_readClause : GoodIn wsX5_read wsX5_readClause := goodIn_r _ [28, 11, 29, 30, 31, 27, 32, 7, 33, 34, 4, 35, 36, 37, 10, 38, 39, 40, 41, 42, 6, 1, 43, 44, 45, 46, 47, 48, 49, 50, 51, 52, 53, 54, 55, 56, 57, 58, 59, 60, 61, 62, 63, 64, 65, 66, 67, 68, 69, 70, 71, 72, 73, 74, 75, 76, 77, 78, 79, 80, 81, 82, 83, 84, 85, 86, 87, 88, 89, 90, 91, 92, 93, 94, 95, 96, 97, 98, 99, 100, 101, 102, 103, 104, 105, 106, 107, 108, 109, 110, 111, 112, 113, 3, 5, 114, 115, 116, 117, 118, 119, 120, 121, 122, 123, 124, 125, 126, 127, 128, 129, 130, 131, 132, 133, 134, 135, 136, 137, 138, 139, 140, 141, 142, 143, 144, 145, 146, 147, 148, 149, 150, 151, 152, 153, 154, 155, 156, 157, 158, 159, 160, 161, 162, 163, 164, 165, 166, 167, 168, 169, 170, 171, 172, 173, 174, 23, 175, 176, 177, 178, 179, 180, 181, 182, 183, 184, 185, 186, 187, 188, 17, 18, 189, 20, 21, 22, 190, 191, 192, 193, 194, 195, 196, 197, 198, 199, 200, 201] (by decide +kernel) (by decide +kernel)
set_option maxRecDepth 20000 in
theorem gX5_read_X5_readClause : GoodIn wsX5_read (wsV RX5 35 RX5 yX5_readClause wsX5_readClause) := goodIn_app (goodIn_of _ (by decide +kernel)) ggX5_read_X5_readClause
set_option maxRecDepth 20000 in
theorem ggX5_read_X5_reads : GoodIn wsX5_read wsX5_reads := goodIn_r _ [95, 96, 97, 98, 27, 99, 7, 6, 1, 100, 101, 102, 46, 103, 104, 105, 106, 107, 48, 59, 60, 61, 62, 53, 54, 108, 44, 45, 47, 49, 50, 51, 52, 109, 110, 65, 111, 112, 34, 4, 35, 113, 3, 5, 114, 115, 116, 117, 118, 119, 120, 121, 77, 122, 123, 124, 125, 126, 127, 128, 129, 130, 131, 82, 83, 84, 132, 133, 134, 70, 135, 136, 73, 137, 138, 139, 140, 86, 87, 88, 89, 90, 91, 141, 142, 143, 144, 145, 146, 147, 148, 149, 150, 151, 152, 153, 154, 155, 190, 191, 192, 193] (by decide +kernel) (by decide +kernel)
set_option maxRecDepth 20000 in
theorem gX5_read_X5_reads : GoodIn wsX5_read (wsV RX5 41 RX5 yX5_reads wsX5_reads) := goodIn_app (goodIn_of _ (by decide +kernel)) ggX5_read_X5_reads
theorem dX5_read_0 : decode cX5_read 0 = .ok (.aload_n 0, 1) := by decide +kernel
theorem dX5_read_1 : decode cX5_read 1 = .ok (.aload_n 1, 1) := by decide +kernel
theorem dX5_read_2 : decode cX5_read 2 = .ok (.putfield 9, 3) := by decide +kernel
theorem dX5_read_5 : decode cX5_read 5 = .ok (.aload_n 0, 1) := by decide +kernel
theorem dX5_read_6 : decode cX5_read 6 = .ok (.iload_n 2, 1) := by decide +kernel
theorem dX5_read_7 : decode cX5_read 7 = .ok (.aload_n 1, 1) := by decide +kernel
theorem dX5_read_8 : decode cX5_read 8 = .ok (.arraylength, 1) := by decide +kernel
theorem dX5_read_9 : decode cX5_read 9 = .ok (.invokestatic 15, 3) := by decide +kernel
theorem dX5_read_12 : decode cX5_read 12 = .ok (.putfield 21, 3) := by decide +kernel
theorem dX5_read_15 : decode cX5_read 15 = .ok (.aload_n 0, 1) := by decide +kernel
theorem dX5_read_16 : decode cX5_read 16 = .ok (.iconst 0, 1) := by decide +kernel
theorem dX5_read_17 : decode cX5_read 17 = .ok (.putfield 25, 3) := by decide +kernel
theorem dX5_read_20 : decode cX5_read 20 = .ok (.aload_n 0, 1) := by decide +kernel
theorem dX5_read_21 : decode cX5_read 21 = .ok (.new 28, 3) := by decide +kernel
theorem dX5_read_24 : decode cX5_read 24 = .ok (.dup, 1) := by decide +kernel
theorem dX5_read_25 : decode cX5_read 25 = .ok (.invokespecial 30, 3) := by decide +kernel
theorem dX5_read_28 : decode cX5_read 28 = .ok (.putfield 31, 3) := by decide +kernel
theorem dX5_read_31 : decode cX5_read 31 = .ok (.iconst 0, 1) := by decide +kernel
theorem dX5_read_32 : decode cX5_read 32 = .ok (.istore_n 3, 1) := by decide +kernel
theorem dX5_read_33 : decode cX5_read 33 = .ok (.iload_n 3, 1) := by decide +kernel
theorem dX5_read_34 : decode cX5_read 34 = .ok (.bipush 10, 2) := by decide +kernel
theorem dX5_read_36 : decode cX5_read 36 = .ok (.if_icmp .ge 51, 3) := by decide +kernel
theorem dX5_read_39 : decode cX5_read 39 = .ok (.aload_n 0, 1) := by decide +kernel
theorem dX5_read_40 : decode cX5_read 40 = .ok (.invokevirtual 35, 3) := by decide +kernel
theorem dX5_read_43 : decode cX5_read 43 = .ok (.ifCond .ne 5, 3) := by decide +kernel
theorem dX5_read_46 : decode cX5_read 46 = .ok (.aconst_null, 1) := by decide +kernel
theorem dX5_read_47 : decode cX5_read 47 = .ok (.areturn, 1) := by decide +kernel
theorem dX5_read_48 : decode cX5_read 48 = .ok (.aload_n 0, 1) := by decide +kernel
theorem dX5_read_49 : decode cX5_read 49 = .ok (.getfield 25, 3) := by decide +kernel
theorem dX5_read_52 : decode cX5_read 52 = .ok (.aload_n 0, 1) := by decide +kernel
theorem dX5_read_53 : decode cX5_read 53 = .ok (.getfield 21, 3) := by decide +kernel
theorem dX5_read_56 : decode cX5_read 56 = .ok (.if_icmp .lt 8, 3) := by decide +kernel
theorem dX5_read_59 : decode cX5_read 59 = .ok (.aload_n 0, 1) := by decide +kernel
theorem dX5_read_60 : decode cX5_read 60 = .ok (.getfield 31, 3) := by decide +kernel
theorem dX5_read_63 : decode cX5_read 63 = .ok (.areturn, 1) := by decide +kernel
theorem dX5_read_64 : decode cX5_read 64 = .ok (.iload_n 3, 1) := by decide +kernel
theorem dX5_read_65 : decode cX5_read 65 = .ok (.bipush 9, 2) := by decide +kernel
theorem dX5_read_67 : decode cX5_read 67 = .ok (.if_icmp .eq 12, 3) := by decide +kernel
theorem dX5_read_70 : decode cX5_read 70 = .ok (.aload_n 0, 1) := by decide +kernel
theorem dX5_read_71 : decode cX5_read 71 = .ok (.ldc 39, 2) := by decide +kernel
theorem dX5_read_73 : decode cX5_read 73 = .ok (.invokevirtual 41, 3) := by decide +kernel
theorem dX5_read_76 : decode cX5_read 76 = .ok (.ifCond .ne 5, 3) := by decide +kernel
theorem dX5_read_79 : decode cX5_read 79 = .ok (.aconst_null, 1) := by decide +kernel
theorem dX5_read_80 : decode cX5_read 80 = .ok (.areturn, 1) := by decide +kernel
theorem dX5_read_81 : decode cX5_read 81 = .ok (.iinc 3 1, 3) := by decide +kernel
theorem dX5_read_84 : decode cX5_read 84 = .ok (.goto (-51), 3) := by decide +kernel
theorem dX5_read_87 : decode cX5_read 87 = .ok (.aconst_null, 1) := by decide +kernel
theorem dX5_read_88 : decode cX5_read 88 = .ok (.areturn, 1) := by decide +kernel
set_option maxRecDepth 20000 in
theorem ggX5_readClause_X5_readWord : GoodIn wsX5_readClause wsX5_readWord := goodIn_r _ [6, 7, 8, 9, 10, 11, 12, 13, 14, 15, 16, 17, 18, 5, 19, 20, 21, 22, 23, 24, 25, 26, 27, 28, 29, 30, 31, 32, 33, 34, 35, 36, 37, 38, 39, 40, 41, 42, 43, 44, 45, 46, 47, 48, 49, 50, 51, 52, 53, 54, 55, 56, 57, 58, 59, 60, 61, 62, 63, 64, 65, 66, 67, 68, 69, 70, 177, 178, 179, 180] (by decide +kernel) (by decide +kernel)
set_option maxRecDepth 20000 in
theorem gX5_readClause_X5_readWord : GoodIn wsX5_readClause (wsV RX5 45 RX5 yX5_readWord wsX5_readWord) := goodIn_app (goodIn_of _ (by decide +kernel)) ggX5_readClause_X5_readWord
set_option maxRecDepth 20000 in
theorem ggX5_readClause_X5_reads : GoodIn wsX5_readClause wsX5_reads := goodIn_r _ [74, 75, 76, 77, 5, 78, 7, 20, 21, 79, 80, 81, 25, 82, 83, 84, 85, 86, 27, 38, 39, 40, 41, 32, 33, 87, 23, 24, 26, 28, 29, 30, 31, 88, 89, 44, 90, 91, 9, 10, 11, 92, 93, 94, 95, 96, 97, 98, 99, 100, 101, 102, 56, 103, 104, 105, 106, 107, 108, 109, 110, 111, 112, 61, 62, 63, 113, 114, 115, 49, 116, 117, 52, 118, 119, 120, 121, 65, 66, 67, 68, 69, 70, 122, 123, 124, 125, 126, 127, 128, 129, 130, 131, 132, 133, 134, 135, 136, 177, 178, 179, 180] (by decide +kernel) (by decide +kernel)
set_option maxRecDepth 20000 in
theorem gX5_readClause_X5_reads : GoodIn wsX5_readClause (wsV RX5 41 RX5 yX5_reads wsX5_reads) := goodIn_app (goodIn_of _ (by decide +kernel)) ggX5_readClause_X5_reads
set_option maxRecDepth 20000 in
theorem ggX5_readClause_X5_readNumber : GoodIn wsX5_readClause wsX5_readNumber := goodIn_r _ [140, 75, 76, 77, 5, 78, 7, 20, 21, 79, 80, 81, 25, 82, 83, 84, 85, 86, 27, 38, 39, 40, 41, 32, 33, 87, 23, 24, 26, 28, 29, 30, 31, 88, 89, 44, 90, 91, 9, 10, 11, 92, 93, 94, 95, 96, 97, 98, 99, 100, 101, 102, 56, 103, 104, 105, 106, 107, 108, 109, 110, 111, 112, 61, 62, 63, 113, 114, 115, 49, 116, 117, 52, 118, 119, 120, 121, 65, 66, 67, 68, 69, 70, 122, 123, 124, 125, 126, 127, 128, 129, 130, 131, 132, 133, 134, 135, 136, 177, 178, 179, 180] (by decide +kernel) (by decide +kernel)
set_option maxRecDepth 20000 in
theorem gX5_readClause_X5_readNumber : GoodIn wsX5_readClause (wsV RX5 51 RX5 yX5_readNumber wsX5_readNumber) := goodIn_app (goodIn_of _ (by decide +kernel)) ggX5_readClause_X5_readNumber
set_option maxRecDepth 20000 in
theorem ggX5_readClause_X4_hasCondition : GoodIn wsX5_readClause wsX4_hasCondition := goodIn_r _ [143] (by decide +kernel) (by decide +kernel)
set_option maxRecDepth 20000 in
theorem gX5_readClause_X4_hasCondition : GoodIn wsX5_readClause (va_wsS RX5 54 yX4_hasCondition wsX4_hasCondition) := goodIn_app (goodIn_of _ (by decide +kernel)) ggX5_readClause_X4_hasCondition
set_option maxRecDepth 20000 in
theorem ggX5_readClause_X5_readEither : GoodIn wsX5_readClause wsX5_readEither := goodIn_r _ [147, 1, 148, 149, 150, 5, 151, 152, 153, 14, 154, 155, 156, 71, 72, 73, 74, 75, 76, 77, 78, 7, 20, 21, 79, 80, 81, 25, 82, 83, 84, 85, 86, 27, 38, 39, 40, 41, 32, 33, 87, 23, 24, 26, 28, 29, 30, 31, 88, 89, 44, 90, 91, 9, 10, 11, 92, 93, 94, 95, 96, 97, 98, 99, 100, 101, 102, 56, 103, 104, 105, 106, 107, 108, 109, 110, 111, 112, 61, 62, 63, 113, 114, 115, 49, 116, 117, 52, 118, 119, 120, 121, 65, 66, 67, 68, 69, 70, 122, 123, 124, 125, 126, 127, 128, 129, 130, 131, 132, 133, 134, 135, 136, 157, 144, 145, 146, 158, 159, 160, 161, 137, 138, 139, 140, 162, 163, 164, 165, 166, 177, 178, 179, 180, 181, 182, 183, 184, 185, 186, 187, 188] (by decide +kernel) (by decide +kernel)
set_option maxRecDepth 20000 in
theorem gX5_readClause_X5_readEither : GoodIn wsX5_readClause (wsV RX5 58 RX5 yX5_readEither wsX5_readEither) := goodIn_app (goodIn_of _ (by decide +kernel)) ggX5_readClause_X5_readEither
set_option maxRecDepth 20000 in
theorem ggX5_readClause_X4_add : GoodIn wsX5_readClause wsX4_add := goodIn_r _ [170, 171, 172, 173, 174, 175, 176, 155, 181, 182, 183, 184, 185, 186, 187, 188] (by decide +kernel) (by decide +kernel)
set_option maxRecDepth 20000 in
theorem gX5_readClause_X4_add : GoodIn wsX5_readClause (wsV RX5 61 RX4 yX4_add wsX4_add) := goodIn_app (goodIn_of _ (by decide +kernel)) ggX5_readClause_X4_add
theorem dX5_readClause_0 : decode cX5_readClause 0 = .ok (.aload_n 0, 1) := by decide +kernel
theorem dX5_readClause_1 : decode cX5_readClause 1 = .ok (.invokevirtual 45, 3) := by decide +kernel
theorem dX5_readClause_4 : decode cX5_readClause 4 = .ok (.istore_n 1, 1) := by decide +kernel
theorem dX5_readClause_5 : decode cX5_readClause 5 = .ok (.iload_n 1, 1) := by decide +kernel
theorem dX5_readClause_6 : decode cX5_readClause 6 = .ok (.ifCond .lt 12, 3) := by decide +kernel
theorem dX5_readClause_9 : decode cX5_readClause 9 = .ok (.aload_n 0, 1) := by decide +kernel
theorem dX5_readClause_10 : decode cX5_readClause 10 = .ok (.ldc 49, 2) := by decide +kernel
theorem dX5_readClause_12 : decode cX5_readClause 12 = .ok (.invokevirtual 41, 3) := by decide +kernel
theorem dX5_readClause_15 : decode cX5_readClause 15 = .ok (.ifCond .ne 5, 3) := by decide +kernel
theorem dX5_readClause_18 : decode cX5_readClause 18 = .ok (.iconst 0, 1) := by decide +kernel
theorem dX5_readClause_19 : decode cX5_readClause 19 = .ok (.ireturn, 1) := by decide +kernel
theorem dX5_readClause_20 : decode cX5_readClause 20 = .ok (.aload_n 0, 1) := by decide +kernel
theorem dX5_readClause_21 : decode cX5_readClause 21 = .ok (.invokevirtual 51, 3) := by decide +kernel
theorem dX5_readClause_24 : decode cX5_readClause 24 = .ok (.istore_n 2, 1) := by decide +kernel
theorem dX5_readClause_25 : decode cX5_readClause 25 = .ok (.iload_n 2, 1) := by decide +kernel
theorem dX5_readClause_26 : decode cX5_readClause 26 = .ok (.ifCond .ge 5, 3) := by decide +kernel
theorem dX5_readClause_29 : decode cX5_readClause 29 = .ok (.iconst 0, 1) := by decide +kernel
theorem dX5_readClause_30 : decode cX5_readClause 30 = .ok (.ireturn, 1) := by decide +kernel
theorem dX5_readClause_31 : decode cX5_readClause 31 = .ok (.iload_n 1, 1) := by decide +kernel
theorem dX5_readClause_32 : decode cX5_readClause 32 = .ok (.invokestatic 54, 3) := by decide +kernel
theorem dX5_readClause_35 : decode cX5_readClause 35 = .ok (.ifCond .eq 22, 3) := by decide +kernel
theorem dX5_readClause_38 : decode cX5_readClause 38 = .ok (.aload_n 0, 1) := by decide +kernel
theorem dX5_readClause_39 : decode cX5_readClause 39 = .ok (.ldc 49, 2) := by decide +kernel
theorem dX5_readClause_41 : decode cX5_readClause 41 = .ok (.invokevirtual 41, 3) := by decide +kernel
theorem dX5_readClause_44 : decode cX5_readClause 44 = .ok (.ifCond .eq 11, 3) := by decide +kernel
theorem dX5_readClause_47 : decode cX5_readClause 47 = .ok (.aload_n 0, 1) := by decide +kernel
theorem dX5_readClause_48 : decode cX5_readClause 48 = .ok (.iconst 0, 1) := by decide +kernel
theorem dX5_readClause_49 : decode cX5_readClause 49 = .ok (.invokevirtual 58, 3) := by decide +kernel
theorem dX5_readClause_52 : decode cX5_readClause 52 = .ok (.ifCond .ne 5, 3) := by decide +kernel
theorem dX5_readClause_55 : decode cX5_readClause 55 = .ok (.iconst 0, 1) := by decide +kernel
theorem dX5_readClause_56 : decode cX5_readClause 56 = .ok (.ireturn, 1) := by decide +kernel
theorem dX5_readClause_57 : decode cX5_readClause 57 = .ok (.aload_n 0, 1) := by decide +kernel
theorem dX5_readClause_58 : decode cX5_readClause 58 = .ok (.getfield 31, 3) := by decide +kernel
theorem dX5_readClause_61 : decode cX5_readClause 61 = .ok (.iload_n 1, 1) := by decide +kernel
theorem dX5_readClause_62 : decode cX5_readClause 62 = .ok (.iload_n 2, 1) := by decide +kernel
theorem dX5_readClause_63 : decode cX5_readClause 63 = .ok (.invokevirtual 61, 3) := by decide +kernel
theorem dX5_readClause_66 : decode cX5_readClause 66 = .ok (.iconst 1, 1) := by decide +kernel
theorem dX5_readClause_67 : decode cX5_readClause 67 = .ok (.ireturn, 1) := by decide +kernel
set_option maxRecDepth 20000 in
theorem ggX5_readWord_X4_word : GoodIn wsX5_readWord wsX4_word := goodIn_r _ [9] (by decide +kernel) (by decide +kernel)
set_option maxRecDepth 20000 in
theorem gX5_readWord_X4_word : GoodIn wsX5_readWord (va_wsS RX5 65 yX4_word wsX4_word) := goodIn_app (goodIn_of _ (by decide +kernel)) ggX5_readWord_X4_word
set_option maxRecDepth 20000 in
theorem ggX5_readWord_X5_fits : GoodIn wsX5_readWord wsX5_fits := goodIn_r _ [14, 1, 15, 16, 17, 18, 19, 20, 21, 22, 23, 24, 25, 26, 27, 28, 29, 30, 31, 32, 33, 34, 35, 36, 37, 38, 39, 40, 41, 42, 43, 44, 45, 46, 47, 48, 49, 50, 51, 52, 53, 54, 55, 56, 57, 58, 59, 60, 61, 62, 63, 64, 65, 66, 67, 68, 69] (by decide +kernel) (by decide +kernel)
