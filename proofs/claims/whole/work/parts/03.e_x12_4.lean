theorem dX12_plainLifts_6 : decode cX12_plainLifts 6 = .ok (.aload_n 0, 1) := by decide +kernel
theorem dX12_plainLifts_7 : decode cX12_plainLifts 7 = .ok (.getfield 255, 3) := by decide +kernel
theorem dX12_plainLifts_10 : decode cX12_plainLifts 10 = .ok (.iadd, 1) := by decide +kernel
theorem dX12_plainLifts_11 : decode cX12_plainLifts 11 = .ok (.ireturn, 1) := by decide +kernel
set_option maxRecDepth 20000 in
theorem ggX12_liftsActs_X12_isUnder : GoodIn wsX12_liftsActs wsX12_isUnder := goodIn_r _ [6] (by decide +kernel) (by decide +kernel)
set_option maxRecDepth 20000 in
theorem gX12_liftsActs_X12_isUnder : GoodIn wsX12_liftsActs (va_wsS RX12 261 yX12_isUnder wsX12_isUnder) := goodIn_app (goodIn_of _ (by decide +kernel)) ggX12_liftsActs_X12_isUnder
set_option maxRecDepth 20000 in
theorem ggX12_liftsActs_X12_ranBody : GoodIn wsX12_liftsActs wsX12_ranBody := goodIn_r _ [10, 11, 12, 17, 18, 19, 20, 21, 22, 23, 24, 25, 26, 27, 28, 29, 30, 31, 32, 33, 34, 35, 36, 37, 38, 39, 40, 41, 42, 43, 44, 45, 46] (by decide +kernel) (by decide +kernel)
set_option maxRecDepth 20000 in
theorem gX12_liftsActs_X12_ranBody : GoodIn wsX12_liftsActs (wsV RX12 252 RX12 yX12_ranBody wsX12_ranBody) := goodIn_app (goodIn_of _ (by decide +kernel)) ggX12_liftsActs_X12_ranBody
set_option maxRecDepth 20000 in
theorem ggX12_liftsActs_X12_plainLifts : GoodIn wsX12_liftsActs wsX12_plainLifts := goodIn_r _ [16, 2, 7, 8, 9, 5, 10, 11, 12, 17, 18, 19, 20, 21, 22, 23, 24, 25, 26, 27, 28, 29, 30, 31, 32, 33, 34, 35, 36, 37, 38, 39, 40, 41, 42, 43, 44, 45, 46] (by decide +kernel) (by decide +kernel)
set_option maxRecDepth 20000 in
theorem gX12_liftsActs_X12_plainLifts : GoodIn wsX12_liftsActs (wsV RX12 264 RX12 yX12_plainLifts wsX12_plainLifts) := goodIn_app (goodIn_of _ (by decide +kernel)) ggX12_liftsActs_X12_plainLifts
theorem dX12_liftsActs_0 : decode cX12_liftsActs 0 = .ok (.aload_n 0, 1) := by decide +kernel
theorem dX12_liftsActs_1 : decode cX12_liftsActs 1 = .ok (.getfield 258, 3) := by decide +kernel
theorem dX12_liftsActs_4 : decode cX12_liftsActs 4 = .ok (.iconst 1, 1) := by decide +kernel
theorem dX12_liftsActs_5 : decode cX12_liftsActs 5 = .ok (.invokestatic 261, 3) := by decide +kernel
theorem dX12_liftsActs_8 : decode cX12_liftsActs 8 = .ok (.ifCond .eq 17, 3) := by decide +kernel
theorem dX12_liftsActs_11 : decode cX12_liftsActs 11 = .ok (.aload_n 0, 1) := by decide +kernel
theorem dX12_liftsActs_12 : decode cX12_liftsActs 12 = .ok (.bipush 11, 2) := by decide +kernel
theorem dX12_liftsActs_14 : decode cX12_liftsActs 14 = .ok (.invokevirtual 252, 3) := by decide +kernel
theorem dX12_liftsActs_17 : decode cX12_liftsActs 17 = .ok (.aload_n 0, 1) := by decide +kernel
theorem dX12_liftsActs_18 : decode cX12_liftsActs 18 = .ok (.iload_n 1, 1) := by decide +kernel
theorem dX12_liftsActs_19 : decode cX12_liftsActs 19 = .ok (.iconst 3, 1) := by decide +kernel
theorem dX12_liftsActs_20 : decode cX12_liftsActs 20 = .ok (.imul, 1) := by decide +kernel
theorem dX12_liftsActs_21 : decode cX12_liftsActs 21 = .ok (.invokevirtual 264, 3) := by decide +kernel
theorem dX12_liftsActs_24 : decode cX12_liftsActs 24 = .ok (.ireturn, 1) := by decide +kernel
theorem dX12_liftsActs_25 : decode cX12_liftsActs 25 = .ok (.aload_n 0, 1) := by decide +kernel
theorem dX12_liftsActs_26 : decode cX12_liftsActs 26 = .ok (.getfield 258, 3) := by decide +kernel
theorem dX12_liftsActs_29 : decode cX12_liftsActs 29 = .ok (.iconst 5, 1) := by decide +kernel
theorem dX12_liftsActs_30 : decode cX12_liftsActs 30 = .ok (.if_icmp .ne 20, 3) := by decide +kernel
theorem dX12_liftsActs_33 : decode cX12_liftsActs 33 = .ok (.aload_n 0, 1) := by decide +kernel
theorem dX12_liftsActs_34 : decode cX12_liftsActs 34 = .ok (.bipush 51, 2) := by decide +kernel
theorem dX12_liftsActs_36 : decode cX12_liftsActs 36 = .ok (.invokevirtual 252, 3) := by decide +kernel
theorem dX12_liftsActs_39 : decode cX12_liftsActs 39 = .ok (.aload_n 0, 1) := by decide +kernel
theorem dX12_liftsActs_40 : decode cX12_liftsActs 40 = .ok (.iload_n 1, 1) := by decide +kernel
theorem dX12_liftsActs_41 : decode cX12_liftsActs 41 = .ok (.invokevirtual 264, 3) := by decide +kernel
theorem dX12_liftsActs_44 : decode cX12_liftsActs 44 = .ok (.aload_n 0, 1) := by decide +kernel
theorem dX12_liftsActs_45 : decode cX12_liftsActs 45 = .ok (.getfield 255, 3) := by decide +kernel
theorem dX12_liftsActs_48 : decode cX12_liftsActs 48 = .ok (.ixor, 1) := by decide +kernel
theorem dX12_liftsActs_49 : decode cX12_liftsActs 49 = .ok (.ireturn, 1) := by decide +kernel
theorem dX12_liftsActs_50 : decode cX12_liftsActs 50 = .ok (.aload_n 0, 1) := by decide +kernel
theorem dX12_liftsActs_51 : decode cX12_liftsActs 51 = .ok (.iload_n 1, 1) := by decide +kernel
theorem dX12_liftsActs_52 : decode cX12_liftsActs 52 = .ok (.invokevirtual 264, 3) := by decide +kernel
theorem dX12_liftsActs_55 : decode cX12_liftsActs 55 = .ok (.ireturn, 1) := by decide +kernel
set_option maxRecDepth 20000 in
theorem ggX12_plainGoes_X12_ranBody : GoodIn wsX12_plainGoes wsX12_ranBody := goodIn_r _ [6, 7, 8, 22, 23, 24, 25, 26, 27, 28, 29, 30, 31, 32, 33, 34, 35, 36, 37, 38, 39, 40, 41, 42, 43, 44, 45, 46, 47, 48, 49, 50, 51] (by decide +kernel) (by decide +kernel)
set_option maxRecDepth 20000 in
theorem gX12_plainGoes_X12_ranBody : GoodIn wsX12_plainGoes (wsV RX12 252 RX12 yX12_ranBody wsX12_ranBody) := goodIn_app (goodIn_of _ (by decide +kernel)) ggX12_plainGoes_X12_ranBody
set_option maxRecDepth 20000 in
theorem ggX12_plainGoes_X12_liftsActs : GoodIn wsX12_plainGoes wsX12_liftsActs := goodIn_r _ [12, 13, 14, 15, 16, 5, 17, 2, 3, 4, 6, 7, 8, 18, 19, 20, 21, 22, 23, 24, 25, 26, 27, 28, 29, 30, 31, 32, 33, 34, 35, 36, 37, 38, 39, 40, 41, 42, 43, 44, 45, 46, 47, 48, 49, 50, 51] (by decide +kernel) (by decide +kernel)
set_option maxRecDepth 20000 in
theorem gX12_plainGoes_X12_liftsActs : GoodIn wsX12_plainGoes (wsV RX12 267 RX12 yX12_liftsActs wsX12_liftsActs) := goodIn_app (goodIn_of _ (by decide +kernel)) ggX12_plainGoes_X12_liftsActs
theorem dX12_plainGoes_0 : decode cX12_plainGoes 0 = .ok (.aload_n 0, 1) := by decide +kernel
theorem dX12_plainGoes_1 : decode cX12_plainGoes 1 = .ok (.iconst 2, 1) := by decide +kernel
theorem dX12_plainGoes_2 : decode cX12_plainGoes 2 = .ok (.invokevirtual 252, 3) := by decide +kernel
theorem dX12_plainGoes_5 : decode cX12_plainGoes 5 = .ok (.aload_n 0, 1) := by decide +kernel
theorem dX12_plainGoes_6 : decode cX12_plainGoes 6 = .ok (.iload_n 1, 1) := by decide +kernel
theorem dX12_plainGoes_7 : decode cX12_plainGoes 7 = .ok (.invokevirtual 267, 3) := by decide +kernel
theorem dX12_plainGoes_10 : decode cX12_plainGoes 10 = .ok (.aload_n 0, 1) := by decide +kernel
theorem dX12_plainGoes_11 : decode cX12_plainGoes 11 = .ok (.getfield 270, 3) := by decide +kernel
theorem dX12_plainGoes_14 : decode cX12_plainGoes 14 = .ok (.isub, 1) := by decide +kernel
theorem dX12_plainGoes_15 : decode cX12_plainGoes 15 = .ok (.ireturn, 1) := by decide +kernel
set_option maxRecDepth 20000 in
theorem ggX12_goesActs_X12_isUnder : GoodIn wsX12_goesActs wsX12_isUnder := goodIn_r _ [6] (by decide +kernel) (by decide +kernel)
set_option maxRecDepth 20000 in
theorem gX12_goesActs_X12_isUnder : GoodIn wsX12_goesActs (va_wsS RX12 261 yX12_isUnder wsX12_isUnder) := goodIn_app (goodIn_of _ (by decide +kernel)) ggX12_goesActs_X12_isUnder
set_option maxRecDepth 20000 in
theorem ggX12_goesActs_X12_ranBody : GoodIn wsX12_goesActs wsX12_ranBody := goodIn_r _ [10, 11, 12, 26, 27, 28, 29, 30, 31, 32, 33, 34, 35, 36, 37, 38, 39, 40, 41, 42, 43, 44, 45, 46, 47, 48, 49, 50, 51, 52, 53, 54, 55] (by decide +kernel) (by decide +kernel)
set_option maxRecDepth 20000 in
theorem gX12_goesActs_X12_ranBody : GoodIn wsX12_goesActs (wsV RX12 252 RX12 yX12_ranBody wsX12_ranBody) := goodIn_app (goodIn_of _ (by decide +kernel)) ggX12_goesActs_X12_ranBody
set_option maxRecDepth 20000 in
theorem ggX12_goesActs_X12_plainGoes : GoodIn wsX12_goesActs wsX12_plainGoes := goodIn_r _ [16, 2, 7, 8, 9, 5, 10, 11, 12, 17, 18, 19, 20, 1, 21, 3, 4, 6, 22, 23, 24, 25, 26, 27, 28, 29, 30, 31, 32, 33, 34, 35, 36, 37, 38, 39, 40, 41, 42, 43, 44, 45, 46, 47, 48, 49, 50, 51, 52, 53, 54, 55] (by decide +kernel) (by decide +kernel)
set_option maxRecDepth 20000 in
theorem gX12_goesActs_X12_plainGoes : GoodIn wsX12_goesActs (wsV RX12 273 RX12 yX12_plainGoes wsX12_plainGoes) := goodIn_app (goodIn_of _ (by decide +kernel)) ggX12_goesActs_X12_plainGoes
theorem dX12_goesActs_0 : decode cX12_goesActs 0 = .ok (.aload_n 0, 1) := by decide +kernel
theorem dX12_goesActs_1 : decode cX12_goesActs 1 = .ok (.getfield 258, 3) := by decide +kernel
theorem dX12_goesActs_4 : decode cX12_goesActs 4 = .ok (.iconst 2, 1) := by decide +kernel
theorem dX12_goesActs_5 : decode cX12_goesActs 5 = .ok (.invokestatic 261, 3) := by decide +kernel
theorem dX12_goesActs_8 : decode cX12_goesActs 8 = .ok (.ifCond .eq 16, 3) := by decide +kernel
theorem dX12_goesActs_11 : decode cX12_goesActs 11 = .ok (.aload_n 0, 1) := by decide +kernel
theorem dX12_goesActs_12 : decode cX12_goesActs 12 = .ok (.bipush 21, 2) := by decide +kernel
theorem dX12_goesActs_14 : decode cX12_goesActs 14 = .ok (.invokevirtual 252, 3) := by decide +kernel
theorem dX12_goesActs_17 : decode cX12_goesActs 17 = .ok (.aload_n 0, 1) := by decide +kernel
theorem dX12_goesActs_18 : decode cX12_goesActs 18 = .ok (.iload_n 1, 1) := by decide +kernel
theorem dX12_goesActs_19 : decode cX12_goesActs 19 = .ok (.invokevirtual 273, 3) := by decide +kernel
theorem dX12_goesActs_22 : decode cX12_goesActs 22 = .ok (.ineg, 1) := by decide +kernel
theorem dX12_goesActs_23 : decode cX12_goesActs 23 = .ok (.ireturn, 1) := by decide +kernel
theorem dX12_goesActs_24 : decode cX12_goesActs 24 = .ok (.aload_n 0, 1) := by decide +kernel
theorem dX12_goesActs_25 : decode cX12_goesActs 25 = .ok (.getfield 258, 3) := by decide +kernel
theorem dX12_goesActs_28 : decode cX12_goesActs 28 = .ok (.bipush 6, 2) := by decide +kernel
theorem dX12_goesActs_30 : decode cX12_goesActs 30 = .ok (.if_icmp .ne 20, 3) := by decide +kernel
theorem dX12_goesActs_33 : decode cX12_goesActs 33 = .ok (.aload_n 0, 1) := by decide +kernel
theorem dX12_goesActs_34 : decode cX12_goesActs 34 = .ok (.bipush 61, 2) := by decide +kernel
theorem dX12_goesActs_36 : decode cX12_goesActs 36 = .ok (.invokevirtual 252, 3) := by decide +kernel
theorem dX12_goesActs_39 : decode cX12_goesActs 39 = .ok (.aload_n 0, 1) := by decide +kernel
theorem dX12_goesActs_40 : decode cX12_goesActs 40 = .ok (.iload_n 1, 1) := by decide +kernel
theorem dX12_goesActs_41 : decode cX12_goesActs 41 = .ok (.invokevirtual 273, 3) := by decide +kernel
theorem dX12_goesActs_44 : decode cX12_goesActs 44 = .ok (.aload_n 0, 1) := by decide +kernel
theorem dX12_goesActs_45 : decode cX12_goesActs 45 = .ok (.getfield 270, 3) := by decide +kernel
theorem dX12_goesActs_48 : decode cX12_goesActs 48 = .ok (.iadd, 1) := by decide +kernel
theorem dX12_goesActs_49 : decode cX12_goesActs 49 = .ok (.ireturn, 1) := by decide +kernel
theorem dX12_goesActs_50 : decode cX12_goesActs 50 = .ok (.aload_n 0, 1) := by decide +kernel
theorem dX12_goesActs_51 : decode cX12_goesActs 51 = .ok (.iload_n 1, 1) := by decide +kernel
theorem dX12_goesActs_52 : decode cX12_goesActs 52 = .ok (.invokevirtual 273, 3) := by decide +kernel
theorem dX12_goesActs_55 : decode cX12_goesActs 55 = .ok (.ireturn, 1) := by decide +kernel
set_option maxRecDepth 20000 in
theorem ggX12_plainTires_X12_ranBody : GoodIn wsX12_plainTires wsX12_ranBody := goodIn_r _ [5, 6, 7, 30, 31, 32, 33, 34, 35, 36, 37, 38, 39, 40, 41, 42, 43, 44, 45, 46, 47, 48, 49, 50, 51, 52, 53, 54, 55, 56, 57, 58, 59] (by decide +kernel) (by decide +kernel)
set_option maxRecDepth 20000 in
theorem gX12_plainTires_X12_ranBody : GoodIn wsX12_plainTires (wsV RX12 252 RX12 yX12_ranBody wsX12_ranBody) := goodIn_app (goodIn_of _ (by decide +kernel)) ggX12_plainTires_X12_ranBody
set_option maxRecDepth 20000 in
theorem ggX12_plainTires_X12_goesActs : GoodIn wsX12_plainTires wsX12_goesActs := goodIn_r _ [11, 12, 13, 14, 15, 4, 16, 1, 2, 3, 5, 6, 7, 17, 18, 19, 20, 21, 22, 23, 24, 25, 26, 27, 28, 29, 30, 31, 32, 33, 34, 35, 36, 37, 38, 39, 40, 41, 42, 43, 44, 45, 46, 47, 48, 49, 50, 51, 52, 53, 54, 55, 56, 57, 58, 59] (by decide +kernel) (by decide +kernel)
set_option maxRecDepth 20000 in
theorem gX12_plainTires_X12_goesActs : GoodIn wsX12_plainTires (wsV RX12 276 RX12 yX12_goesActs wsX12_goesActs) := goodIn_app (goodIn_of _ (by decide +kernel)) ggX12_plainTires_X12_goesActs
theorem dX12_plainTires_0 : decode cX12_plainTires 0 = .ok (.aload_n 0, 1) := by decide +kernel
theorem dX12_plainTires_1 : decode cX12_plainTires 1 = .ok (.iconst 3, 1) := by decide +kernel
theorem dX12_plainTires_2 : decode cX12_plainTires 2 = .ok (.invokevirtual 252, 3) := by decide +kernel
theorem dX12_plainTires_5 : decode cX12_plainTires 5 = .ok (.aload_n 0, 1) := by decide +kernel
theorem dX12_plainTires_6 : decode cX12_plainTires 6 = .ok (.iload_n 1, 1) := by decide +kernel
theorem dX12_plainTires_7 : decode cX12_plainTires 7 = .ok (.invokevirtual 276, 3) := by decide +kernel
theorem dX12_plainTires_10 : decode cX12_plainTires 10 = .ok (.iconst 2, 1) := by decide +kernel
theorem dX12_plainTires_11 : decode cX12_plainTires 11 = .ok (.imul, 1) := by decide +kernel
theorem dX12_plainTires_12 : decode cX12_plainTires 12 = .ok (.ireturn, 1) := by decide +kernel
set_option maxRecDepth 20000 in
theorem ggX12_tiresActs_X12_isUnder : GoodIn wsX12_tiresActs wsX12_isUnder := goodIn_r _ [5] (by decide +kernel) (by decide +kernel)
set_option maxRecDepth 20000 in
theorem gX12_tiresActs_X12_isUnder : GoodIn wsX12_tiresActs (va_wsS RX12 261 yX12_isUnder wsX12_isUnder) := goodIn_app (goodIn_of _ (by decide +kernel)) ggX12_tiresActs_X12_isUnder
set_option maxRecDepth 20000 in
theorem ggX12_tiresActs_X12_ranBody : GoodIn wsX12_tiresActs wsX12_ranBody := goodIn_r _ [9, 10, 11, 34, 35, 36, 37, 38, 39, 40, 41, 42, 43, 44, 45, 46, 47, 48, 49, 50, 51, 52, 53, 54, 55, 56, 57, 58, 59, 60, 61, 62, 63] (by decide +kernel) (by decide +kernel)
set_option maxRecDepth 20000 in
theorem gX12_tiresActs_X12_ranBody : GoodIn wsX12_tiresActs (wsV RX12 252 RX12 yX12_ranBody wsX12_ranBody) := goodIn_app (goodIn_of _ (by decide +kernel)) ggX12_tiresActs_X12_ranBody
set_option maxRecDepth 20000 in
theorem ggX12_tiresActs_X12_plainTires : GoodIn wsX12_tiresActs wsX12_plainTires := goodIn_r _ [15, 6, 7, 8, 4, 9, 10, 11, 16, 17, 18, 19, 1, 20, 2, 3, 5, 21, 22, 23, 24, 25, 26, 27, 28, 29, 30, 31, 32, 33, 34, 35, 36, 37, 38, 39, 40, 41, 42, 43, 44, 45, 46, 47, 48, 49, 50, 51, 52, 53, 54, 55, 56, 57, 58, 59, 60, 61, 62, 63] (by decide +kernel) (by decide +kernel)
set_option maxRecDepth 20000 in
theorem gX12_tiresActs_X12_plainTires : GoodIn wsX12_tiresActs (wsV RX12 279 RX12 yX12_plainTires wsX12_plainTires) := goodIn_app (goodIn_of _ (by decide +kernel)) ggX12_tiresActs_X12_plainTires
set_option maxRecDepth 20000 in
theorem ggX12_tiresActs_X12_liftsActs : GoodIn wsX12_tiresActs wsX12_liftsActs := goodIn_r _ [28, 1, 29, 2, 3, 4, 5, 6, 7, 8, 9, 10, 11, 30, 31, 32, 33, 34, 35, 36, 37, 38, 39, 40, 41, 42, 43, 44, 45, 46, 47, 48, 49, 50, 51, 52, 53, 54, 55, 56, 57, 58, 59, 60, 61, 62, 63] (by decide +kernel) (by decide +kernel)
set_option maxRecDepth 20000 in
theorem gX12_tiresActs_X12_liftsActs : GoodIn wsX12_tiresActs (wsV RX12 267 RX12 yX12_liftsActs wsX12_liftsActs) := goodIn_app (goodIn_of _ (by decide +kernel)) ggX12_tiresActs_X12_liftsActs
theorem dX12_tiresActs_0 : decode cX12_tiresActs 0 = .ok (.aload_n 0, 1) := by decide +kernel
theorem dX12_tiresActs_1 : decode cX12_tiresActs 1 = .ok (.getfield 258, 3) := by decide +kernel
theorem dX12_tiresActs_4 : decode cX12_tiresActs 4 = .ok (.iconst 3, 1) := by decide +kernel
theorem dX12_tiresActs_5 : decode cX12_tiresActs 5 = .ok (.invokestatic 261, 3) := by decide +kernel
theorem dX12_tiresActs_8 : decode cX12_tiresActs 8 = .ok (.ifCond .eq 18, 3) := by decide +kernel
theorem dX12_tiresActs_11 : decode cX12_tiresActs 11 = .ok (.aload_n 0, 1) := by decide +kernel
theorem dX12_tiresActs_12 : decode cX12_tiresActs 12 = .ok (.bipush 31, 2) := by decide +kernel
theorem dX12_tiresActs_14 : decode cX12_tiresActs 14 = .ok (.invokevirtual 252, 3) := by decide +kernel
theorem dX12_tiresActs_17 : decode cX12_tiresActs 17 = .ok (.aload_n 0, 1) := by decide +kernel
theorem dX12_tiresActs_18 : decode cX12_tiresActs 18 = .ok (.iload_n 1, 1) := by decide +kernel
theorem dX12_tiresActs_19 : decode cX12_tiresActs 19 = .ok (.invokevirtual 279, 3) := by decide +kernel
theorem dX12_tiresActs_22 : decode cX12_tiresActs 22 = .ok (.bipush 7, 2) := by decide +kernel
theorem dX12_tiresActs_24 : decode cX12_tiresActs 24 = .ok (.ixor, 1) := by decide +kernel
theorem dX12_tiresActs_25 : decode cX12_tiresActs 25 = .ok (.ireturn, 1) := by decide +kernel
theorem dX12_tiresActs_26 : decode cX12_tiresActs 26 = .ok (.aload_n 0, 1) := by decide +kernel
theorem dX12_tiresActs_27 : decode cX12_tiresActs 27 = .ok (.getfield 258, 3) := by decide +kernel
theorem dX12_tiresActs_30 : decode cX12_tiresActs 30 = .ok (.iconst 4, 1) := by decide +kernel
theorem dX12_tiresActs_31 : decode cX12_tiresActs 31 = .ok (.if_icmp .ne 25, 3) := by decide +kernel
theorem dX12_tiresActs_34 : decode cX12_tiresActs 34 = .ok (.aload_n 0, 1) := by decide +kernel
theorem dX12_tiresActs_35 : decode cX12_tiresActs 35 = .ok (.bipush 41, 2) := by decide +kernel
theorem dX12_tiresActs_37 : decode cX12_tiresActs 37 = .ok (.invokevirtual 252, 3) := by decide +kernel
theorem dX12_tiresActs_40 : decode cX12_tiresActs 40 = .ok (.aload_n 0, 1) := by decide +kernel
theorem dX12_tiresActs_41 : decode cX12_tiresActs 41 = .ok (.iload_n 1, 1) := by decide +kernel
theorem dX12_tiresActs_42 : decode cX12_tiresActs 42 = .ok (.iconst 1, 1) := by decide +kernel
theorem dX12_tiresActs_43 : decode cX12_tiresActs 43 = .ok (.isub, 1) := by decide +kernel
theorem dX12_tiresActs_44 : decode cX12_tiresActs 44 = .ok (.invokevirtual 279, 3) := by decide +kernel
theorem dX12_tiresActs_47 : decode cX12_tiresActs 47 = .ok (.istore_n 2, 1) := by decide +kernel
theorem dX12_tiresActs_48 : decode cX12_tiresActs 48 = .ok (.iload_n 2, 1) := by decide +kernel
theorem dX12_tiresActs_49 : decode cX12_tiresActs 49 = .ok (.aload_n 0, 1) := by decide +kernel
theorem dX12_tiresActs_50 : decode cX12_tiresActs 50 = .ok (.iconst 2, 1) := by decide +kernel
theorem dX12_tiresActs_51 : decode cX12_tiresActs 51 = .ok (.invokevirtual 267, 3) := by decide +kernel
theorem dX12_tiresActs_54 : decode cX12_tiresActs 54 = .ok (.iadd, 1) := by decide +kernel
theorem dX12_tiresActs_55 : decode cX12_tiresActs 55 = .ok (.ireturn, 1) := by decide +kernel
theorem dX12_tiresActs_56 : decode cX12_tiresActs 56 = .ok (.aload_n 0, 1) := by decide +kernel
theorem dX12_tiresActs_57 : decode cX12_tiresActs 57 = .ok (.iload_n 1, 1) := by decide +kernel
theorem dX12_tiresActs_58 : decode cX12_tiresActs 58 = .ok (.invokevirtual 279, 3) := by decide +kernel
theorem dX12_tiresActs_61 : decode cX12_tiresActs 61 = .ok (.ireturn, 1) := by decide +kernel
set_option maxRecDepth 20000 in
theorem ggX12_act_X12_isMan : GoodIn wsX12_act wsX12_isMan := goodIn_r _ [10, 2, 11, 12, 9, 13, 46, 47, 48, 49, 50, 51, 52, 53, 54, 55, 56, 57, 58, 59, 60, 61, 62, 63, 64, 65, 66, 67, 68, 69, 70, 71, 72, 73, 74, 75] (by decide +kernel) (by decide +kernel)
set_option maxRecDepth 20000 in
theorem gX12_act_X12_isMan : GoodIn wsX12_act (wsV RX12 148 RX12 yX12_isMan wsX12_isMan) := goodIn_app (goodIn_of _ (by decide +kernel)) ggX12_act_X12_isMan
set_option maxRecDepth 20000 in
theorem ggX12_act_X12_in : GoodIn wsX12_act wsX12_in := goodIn_r _ [13] (by decide +kernel) (by decide +kernel)
set_option maxRecDepth 20000 in
theorem gX12_act_X12_in : GoodIn wsX12_act (va_wsS RX12 53 yX12_in wsX12_in) := goodIn_app (goodIn_of _ (by decide +kernel)) ggX12_act_X12_in
set_option maxRecDepth 20000 in
theorem ggX12_act_X12_liftsActs : GoodIn wsX12_act wsX12_liftsActs := goodIn_r _ [17, 3, 4, 18, 19, 9, 20, 21, 22, 23, 24, 1, 25, 26, 27, 28, 29, 46, 47, 48, 49, 50, 51, 52, 53, 54, 55, 56, 57, 58, 59, 60, 61, 62, 63, 64, 65, 66, 67, 68, 69, 70, 71, 72, 73, 74, 75] (by decide +kernel) (by decide +kernel)
set_option maxRecDepth 20000 in
theorem gX12_act_X12_liftsActs : GoodIn wsX12_act (wsV RX12 267 RX12 yX12_liftsActs wsX12_liftsActs) := goodIn_app (goodIn_of _ (by decide +kernel)) ggX12_act_X12_liftsActs
set_option maxRecDepth 20000 in
theorem ggX12_act_X12_goesActs : GoodIn wsX12_act wsX12_goesActs := goodIn_r _ [33, 3, 5, 18, 19, 9, 20, 21, 22, 23, 24, 1, 25, 34, 35, 36, 37, 14, 15, 16, 17, 4, 26, 27, 28, 29, 46, 47, 48, 49, 50, 51, 52, 53, 54, 55, 56, 57, 58, 59, 60, 61, 62, 63, 64, 65, 66, 67, 68, 69, 70, 71, 72, 73, 74, 75] (by decide +kernel) (by decide +kernel)
set_option maxRecDepth 20000 in
theorem gX12_act_X12_goesActs : GoodIn wsX12_act (wsV RX12 276 RX12 yX12_goesActs wsX12_goesActs) := goodIn_app (goodIn_of _ (by decide +kernel)) ggX12_act_X12_goesActs
set_option maxRecDepth 20000 in
theorem ggX12_act_X12_tiresActs : GoodIn wsX12_act wsX12_tiresActs := goodIn_r _ [41, 3, 18, 19, 9, 20, 21, 22, 23, 24, 1, 25, 42, 43, 44, 45, 30, 31, 32, 33, 5, 34, 35, 36, 37, 14, 15, 16, 17, 4, 26, 27, 28, 29, 46, 47, 48, 49, 50, 51, 52, 53, 54, 55, 56, 57, 58, 59, 60, 61, 62, 63, 64, 65, 66, 67, 68, 69, 70, 71, 72, 73, 74, 75] (by decide +kernel) (by decide +kernel)
set_option maxRecDepth 20000 in
theorem gX12_act_X12_tiresActs : GoodIn wsX12_act (wsV RX12 282 RX12 yX12_tiresActs wsX12_tiresActs) := goodIn_app (goodIn_of _ (by decide +kernel)) ggX12_act_X12_tiresActs
theorem dX12_act_0 : decode cX12_act 0 = .ok (.aload_n 0, 1) := by decide +kernel
theorem dX12_act_1 : decode cX12_act 1 = .ok (.iconst 0, 1) := by decide +kernel
theorem dX12_act_2 : decode cX12_act 2 = .ok (.putfield 249, 3) := by decide +kernel
theorem dX12_act_5 : decode cX12_act 5 = .ok (.aload_n 0, 1) := by decide +kernel
theorem dX12_act_6 : decode cX12_act 6 = .ok (.iload_n 1, 1) := by decide +kernel
theorem dX12_act_7 : decode cX12_act 7 = .ok (.invokevirtual 148, 3) := by decide +kernel
theorem dX12_act_10 : decode cX12_act 10 = .ok (.ifCond .eq 12, 3) := by decide +kernel
theorem dX12_act_13 : decode cX12_act 13 = .ok (.iload_n 2, 1) := by decide +kernel
theorem dX12_act_14 : decode cX12_act 14 = .ok (.iconst 0, 1) := by decide +kernel
theorem dX12_act_15 : decode cX12_act 15 = .ok (.iconst 2, 1) := by decide +kernel
theorem dX12_act_16 : decode cX12_act 16 = .ok (.invokestatic 53, 3) := by decide +kernel
theorem dX12_act_19 : decode cX12_act 19 = .ok (.ifCond .ne 5, 3) := by decide +kernel
theorem dX12_act_22 : decode cX12_act 22 = .ok (.iconst 0, 1) := by decide +kernel
theorem dX12_act_23 : decode cX12_act 23 = .ok (.ireturn, 1) := by decide +kernel
theorem dX12_act_24 : decode cX12_act 24 = .ok (.aload_n 0, 1) := by decide +kernel
theorem dX12_act_25 : decode cX12_act 25 = .ok (.aload_n 0, 1) := by decide +kernel
theorem dX12_act_26 : decode cX12_act 26 = .ok (.getfield 9, 3) := by decide +kernel
theorem dX12_act_29 : decode cX12_act 29 = .ok (.bipush 44, 2) := by decide +kernel
theorem dX12_act_31 : decode cX12_act 31 = .ok (.iload_n 1, 1) := by decide +kernel
theorem dX12_act_32 : decode cX12_act 32 = .ok (.iadd, 1) := by decide +kernel
theorem dX12_act_33 : decode cX12_act 33 = .ok (.iaload, 1) := by decide +kernel
theorem dX12_act_34 : decode cX12_act 34 = .ok (.putfield 258, 3) := by decide +kernel
theorem dX12_act_37 : decode cX12_act 37 = .ok (.aload_n 0, 1) := by decide +kernel
theorem dX12_act_38 : decode cX12_act 38 = .ok (.iload_n 1, 1) := by decide +kernel
theorem dX12_act_39 : decode cX12_act 39 = .ok (.putfield 255, 3) := by decide +kernel
theorem dX12_act_42 : decode cX12_act 42 = .ok (.aload_n 0, 1) := by decide +kernel
theorem dX12_act_43 : decode cX12_act 43 = .ok (.aload_n 0, 1) := by decide +kernel
theorem dX12_act_44 : decode cX12_act 44 = .ok (.getfield 9, 3) := by decide +kernel
theorem dX12_act_47 : decode cX12_act 47 = .ok (.bipush 48, 2) := by decide +kernel
theorem dX12_act_49 : decode cX12_act 49 = .ok (.iload_n 1, 1) := by decide +kernel
theorem dX12_act_50 : decode cX12_act 50 = .ok (.iadd, 1) := by decide +kernel
theorem dX12_act_51 : decode cX12_act 51 = .ok (.iaload, 1) := by decide +kernel
theorem dX12_act_52 : decode cX12_act 52 = .ok (.putfield 270, 3) := by decide +kernel
theorem dX12_act_55 : decode cX12_act 55 = .ok (.iload_n 2, 1) := by decide +kernel
theorem dX12_act_56 : decode cX12_act 56 = .ok (.ifCond .ne 11, 3) := by decide +kernel
theorem dX12_act_59 : decode cX12_act 59 = .ok (.aload_n 0, 1) := by decide +kernel
theorem dX12_act_60 : decode cX12_act 60 = .ok (.iload_n 3, 1) := by decide +kernel
theorem dX12_act_61 : decode cX12_act 61 = .ok (.invokevirtual 267, 3) := by decide +kernel
theorem dX12_act_64 : decode cX12_act 64 = .ok (.goto 21, 3) := by decide +kernel
theorem dX12_act_67 : decode cX12_act 67 = .ok (.iload_n 2, 1) := by decide +kernel
theorem dX12_act_68 : decode cX12_act 68 = .ok (.iconst 1, 1) := by decide +kernel
theorem dX12_act_69 : decode cX12_act 69 = .ok (.if_icmp .ne 11, 3) := by decide +kernel
theorem dX12_act_72 : decode cX12_act 72 = .ok (.aload_n 0, 1) := by decide +kernel
theorem dX12_act_73 : decode cX12_act 73 = .ok (.iload_n 3, 1) := by decide +kernel
theorem dX12_act_74 : decode cX12_act 74 = .ok (.invokevirtual 276, 3) := by decide +kernel
theorem dX12_act_77 : decode cX12_act 77 = .ok (.goto 8, 3) := by decide +kernel
theorem dX12_act_80 : decode cX12_act 80 = .ok (.aload_n 0, 1) := by decide +kernel
theorem dX12_act_81 : decode cX12_act 81 = .ok (.iload_n 3, 1) := by decide +kernel
theorem dX12_act_82 : decode cX12_act 82 = .ok (.invokevirtual 282, 3) := by decide +kernel
theorem dX12_act_85 : decode cX12_act 85 = .ok (.ireturn, 1) := by decide +kernel
set_option maxRecDepth 20000 in
theorem ggX12_trace_X12_in : GoodIn wsX12_trace wsX12_in := goodIn_r _ [6] (by decide +kernel) (by decide +kernel)
set_option maxRecDepth 20000 in
theorem gX12_trace_X12_in : GoodIn wsX12_trace (va_wsS RX12 53 yX12_in wsX12_in) := goodIn_app (goodIn_of _ (by decide +kernel)) ggX12_trace_X12_in
theorem dX12_trace_0 : decode cX12_trace 0 = .ok (.iload_n 1, 1) := by decide +kernel
theorem dX12_trace_1 : decode cX12_trace 1 = .ok (.iconst 0, 1) := by decide +kernel
theorem dX12_trace_2 : decode cX12_trace 2 = .ok (.aload_n 0, 1) := by decide +kernel
theorem dX12_trace_3 : decode cX12_trace 3 = .ok (.getfield 249, 3) := by decide +kernel
theorem dX12_trace_6 : decode cX12_trace 6 = .ok (.bipush 20, 2) := by decide +kernel
theorem dX12_trace_8 : decode cX12_trace 8 = .ok (.if_icmp .ge 10, 3) := by decide +kernel
theorem dX12_trace_11 : decode cX12_trace 11 = .ok (.aload_n 0, 1) := by decide +kernel
theorem dX12_trace_12 : decode cX12_trace 12 = .ok (.getfield 249, 3) := by decide +kernel
theorem dX12_trace_15 : decode cX12_trace 15 = .ok (.goto 5, 3) := by decide +kernel
theorem dX12_trace_18 : decode cX12_trace 18 = .ok (.bipush 20, 2) := by decide +kernel
theorem dX12_trace_20 : decode cX12_trace 20 = .ok (.iconst 1, 1) := by decide +kernel
theorem dX12_trace_21 : decode cX12_trace 21 = .ok (.isub, 1) := by decide +kernel
theorem dX12_trace_22 : decode cX12_trace 22 = .ok (.invokestatic 53, 3) := by decide +kernel
theorem dX12_trace_25 : decode cX12_trace 25 = .ok (.ifCond .eq 12, 3) := by decide +kernel
theorem dX12_trace_28 : decode cX12_trace 28 = .ok (.aload_n 0, 1) := by decide +kernel
theorem dX12_trace_29 : decode cX12_trace 29 = .ok (.getfield 47, 3) := by decide +kernel
theorem dX12_trace_32 : decode cX12_trace 32 = .ok (.iload_n 1, 1) := by decide +kernel
theorem dX12_trace_33 : decode cX12_trace 33 = .ok (.iaload, 1) := by decide +kernel
theorem dX12_trace_34 : decode cX12_trace 34 = .ok (.goto 4, 3) := by decide +kernel
theorem dX12_trace_37 : decode cX12_trace 37 = .ok (.iconst (-1), 1) := by decide +kernel
theorem dX12_trace_38 : decode cX12_trace 38 = .ok (.ireturn, 1) := by decide +kernel
set_option maxRecDepth 20000 in
theorem ggX12_as_X12_isMan : GoodIn wsX12_as wsX12_isMan := goodIn_r _ [6, 1, 7, 8, 5, 9, 13, 14, 15, 16, 17, 18, 19, 20, 21, 22, 23, 24, 25, 26, 27, 28, 29, 30, 31, 32, 33, 34, 35, 36, 37, 38, 39, 40, 41, 42] (by decide +kernel) (by decide +kernel)
set_option maxRecDepth 20000 in
theorem gX12_as_X12_isMan : GoodIn wsX12_as (wsV RX12 148 RX12 yX12_isMan wsX12_isMan) := goodIn_app (goodIn_of _ (by decide +kernel)) ggX12_as_X12_isMan
set_option maxRecDepth 20000 in
theorem ggX12_as_X12_in : GoodIn wsX12_as wsX12_in := goodIn_r _ [9] (by decide +kernel) (by decide +kernel)
set_option maxRecDepth 20000 in
theorem gX12_as_X12_in : GoodIn wsX12_as (va_wsS RX12 53 yX12_in wsX12_in) := goodIn_app (goodIn_of _ (by decide +kernel)) ggX12_as_X12_in
set_option maxRecDepth 20000 in
theorem ggX12_as_X12_isUnder : GoodIn wsX12_as wsX12_isUnder := goodIn_r _ [12] (by decide +kernel) (by decide +kernel)
set_option maxRecDepth 20000 in
theorem gX12_as_X12_isUnder : GoodIn wsX12_as (va_wsS RX12 261 yX12_isUnder wsX12_isUnder) := goodIn_app (goodIn_of _ (by decide +kernel)) ggX12_as_X12_isUnder
theorem dX12_as_0 : decode cX12_as 0 = .ok (.aload_n 0, 1) := by decide +kernel
theorem dX12_as_1 : decode cX12_as 1 = .ok (.iload_n 1, 1) := by decide +kernel
theorem dX12_as_2 : decode cX12_as 2 = .ok (.invokevirtual 148, 3) := by decide +kernel
theorem dX12_as_5 : decode cX12_as 5 = .ok (.ifCond .eq 13, 3) := by decide +kernel
theorem dX12_as_8 : decode cX12_as 8 = .ok (.iload_n 2, 1) := by decide +kernel
theorem dX12_as_9 : decode cX12_as 9 = .ok (.iconst 0, 1) := by decide +kernel
theorem dX12_as_10 : decode cX12_as 10 = .ok (.bipush 6, 2) := by decide +kernel
theorem dX12_as_12 : decode cX12_as 12 = .ok (.invokestatic 53, 3) := by decide +kernel
theorem dX12_as_15 : decode cX12_as 15 = .ok (.ifCond .ne 5, 3) := by decide +kernel
theorem dX12_as_18 : decode cX12_as 18 = .ok (.iconst (-1), 1) := by decide +kernel
theorem dX12_as_19 : decode cX12_as 19 = .ok (.ireturn, 1) := by decide +kernel
theorem dX12_as_20 : decode cX12_as 20 = .ok (.aload_n 0, 1) := by decide +kernel
theorem dX12_as_21 : decode cX12_as 21 = .ok (.getfield 9, 3) := by decide +kernel
theorem dX12_as_24 : decode cX12_as 24 = .ok (.bipush 44, 2) := by decide +kernel
theorem dX12_as_26 : decode cX12_as 26 = .ok (.iload_n 1, 1) := by decide +kernel
theorem dX12_as_27 : decode cX12_as 27 = .ok (.iadd, 1) := by decide +kernel
theorem dX12_as_28 : decode cX12_as 28 = .ok (.iaload, 1) := by decide +kernel
theorem dX12_as_29 : decode cX12_as 29 = .ok (.iload_n 2, 1) := by decide +kernel
theorem dX12_as_30 : decode cX12_as 30 = .ok (.invokestatic 261, 3) := by decide +kernel
theorem dX12_as_33 : decode cX12_as 33 = .ok (.ifCond .eq 15, 3) := by decide +kernel
theorem dX12_as_36 : decode cX12_as 36 = .ok (.aload_n 0, 1) := by decide +kernel
theorem dX12_as_37 : decode cX12_as 37 = .ok (.getfield 9, 3) := by decide +kernel
theorem dX12_as_40 : decode cX12_as 40 = .ok (.bipush 48, 2) := by decide +kernel
theorem dX12_as_42 : decode cX12_as 42 = .ok (.iload_n 1, 1) := by decide +kernel
theorem dX12_as_43 : decode cX12_as 43 = .ok (.iadd, 1) := by decide +kernel
theorem dX12_as_44 : decode cX12_as 44 = .ok (.iaload, 1) := by decide +kernel
theorem dX12_as_45 : decode cX12_as 45 = .ok (.goto 5, 3) := by decide +kernel
theorem dX12_as_48 : decode cX12_as 48 = .ok (.bipush (-6), 2) := by decide +kernel
theorem dX12_as_50 : decode cX12_as 50 = .ok (.ireturn, 1) := by decide +kernel
theorem dX12_image_0 : decode cX12_image 0 = .ok (.iconst 0, 1) := by decide +kernel
theorem dX12_image_1 : decode cX12_image 1 = .ok (.istore_n 1, 1) := by decide +kernel
theorem dX12_image_2 : decode cX12_image 2 = .ok (.iload_n 1, 1) := by decide +kernel
theorem dX12_image_3 : decode cX12_image 3 = .ok (.sipush 883, 3) := by decide +kernel
theorem dX12_image_6 : decode cX12_image 6 = .ok (.if_icmp .ge 21, 3) := by decide +kernel
theorem dX12_image_9 : decode cX12_image 9 = .ok (.aload_n 0, 1) := by decide +kernel
theorem dX12_image_10 : decode cX12_image 10 = .ok (.getfield 15, 3) := by decide +kernel
theorem dX12_image_13 : decode cX12_image 13 = .ok (.iload_n 1, 1) := by decide +kernel
theorem dX12_image_14 : decode cX12_image 14 = .ok (.aload_n 0, 1) := by decide +kernel
theorem dX12_image_15 : decode cX12_image 15 = .ok (.getfield 9, 3) := by decide +kernel
theorem dX12_image_18 : decode cX12_image 18 = .ok (.iload_n 1, 1) := by decide +kernel
theorem dX12_image_19 : decode cX12_image 19 = .ok (.iaload, 1) := by decide +kernel
theorem dX12_image_20 : decode cX12_image 20 = .ok (.iastore, 1) := by decide +kernel
theorem dX12_image_21 : decode cX12_image 21 = .ok (.iinc 1 1, 3) := by decide +kernel
theorem dX12_image_24 : decode cX12_image 24 = .ok (.goto (-22), 3) := by decide +kernel
theorem dX12_image_27 : decode cX12_image 27 = .ok (.aload_n 0, 1) := by decide +kernel
theorem dX12_image_28 : decode cX12_image 28 = .ok (.iconst 1, 1) := by decide +kernel
theorem dX12_image_29 : decode cX12_image 29 = .ok (.putfield 285, 3) := by decide +kernel
theorem dX12_image_32 : decode cX12_image 32 = .ok (.aload_n 0, 1) := by decide +kernel
theorem dX12_image_33 : decode cX12_image 33 = .ok (.getfield 9, 3) := by decide +kernel
theorem dX12_image_36 : decode cX12_image 36 = .ok (.bipush 38, 2) := by decide +kernel
theorem dX12_image_38 : decode cX12_image 38 = .ok (.iaload, 1) := by decide +kernel
theorem dX12_image_39 : decode cX12_image 39 = .ok (.ireturn, 1) := by decide +kernel
theorem dX12_undo_0 : decode cX12_undo 0 = .ok (.aload_n 0, 1) := by decide +kernel
theorem dX12_undo_1 : decode cX12_undo 1 = .ok (.getfield 285, 3) := by decide +kernel
theorem dX12_undo_4 : decode cX12_undo 4 = .ok (.ifCond .ne 6, 3) := by decide +kernel
theorem dX12_undo_7 : decode cX12_undo 7 = .ok (.bipush (-3), 2) := by decide +kernel
theorem dX12_undo_9 : decode cX12_undo 9 = .ok (.ireturn, 1) := by decide +kernel
theorem dX12_undo_10 : decode cX12_undo 10 = .ok (.iconst 0, 1) := by decide +kernel
theorem dX12_undo_11 : decode cX12_undo 11 = .ok (.istore_n 1, 1) := by decide +kernel
theorem dX12_undo_12 : decode cX12_undo 12 = .ok (.iload_n 1, 1) := by decide +kernel
theorem dX12_undo_13 : decode cX12_undo 13 = .ok (.sipush 883, 3) := by decide +kernel
theorem dX12_undo_16 : decode cX12_undo 16 = .ok (.if_icmp .ge 21, 3) := by decide +kernel
theorem dX12_undo_19 : decode cX12_undo 19 = .ok (.aload_n 0, 1) := by decide +kernel
theorem dX12_undo_20 : decode cX12_undo 20 = .ok (.getfield 9, 3) := by decide +kernel
theorem dX12_undo_23 : decode cX12_undo 23 = .ok (.iload_n 1, 1) := by decide +kernel
theorem dX12_undo_24 : decode cX12_undo 24 = .ok (.aload_n 0, 1) := by decide +kernel
theorem dX12_undo_25 : decode cX12_undo 25 = .ok (.getfield 15, 3) := by decide +kernel
theorem dX12_undo_28 : decode cX12_undo 28 = .ok (.iload_n 1, 1) := by decide +kernel
theorem dX12_undo_29 : decode cX12_undo 29 = .ok (.iaload, 1) := by decide +kernel
theorem dX12_undo_30 : decode cX12_undo 30 = .ok (.iastore, 1) := by decide +kernel
theorem dX12_undo_31 : decode cX12_undo 31 = .ok (.iinc 1 1, 3) := by decide +kernel
theorem dX12_undo_34 : decode cX12_undo 34 = .ok (.goto (-22), 3) := by decide +kernel
theorem dX12_undo_37 : decode cX12_undo 37 = .ok (.aload_n 0, 1) := by decide +kernel
theorem dX12_undo_38 : decode cX12_undo 38 = .ok (.dup, 1) := by decide +kernel
theorem dX12_undo_39 : decode cX12_undo 39 = .ok (.getfield 37, 3) := by decide +kernel
theorem dX12_undo_42 : decode cX12_undo 42 = .ok (.iconst 1, 1) := by decide +kernel
theorem dX12_undo_43 : decode cX12_undo 43 = .ok (.iadd, 1) := by decide +kernel
theorem dX12_undo_44 : decode cX12_undo 44 = .ok (.putfield 37, 3) := by decide +kernel
theorem dX12_undo_47 : decode cX12_undo 47 = .ok (.aload_n 0, 1) := by decide +kernel
theorem dX12_undo_48 : decode cX12_undo 48 = .ok (.getfield 9, 3) := by decide +kernel
theorem dX12_undo_51 : decode cX12_undo 51 = .ok (.bipush 38, 2) := by decide +kernel
theorem dX12_undo_53 : decode cX12_undo 53 = .ok (.iaload, 1) := by decide +kernel
theorem dX12_undo_54 : decode cX12_undo 54 = .ok (.ireturn, 1) := by decide +kernel
theorem dX12_count_0 : decode cX12_count 0 = .ok (.iload_n 1, 1) := by decide +kernel
theorem dX12_count_1 : decode cX12_count 1 = .ok (.tableswitch 72 0 4 #[35, 43, 51, 59, 67], 35) := by decide +kernel
theorem dX12_count_36 : decode cX12_count 36 = .ok (.aload_n 0, 1) := by decide +kernel
theorem dX12_count_37 : decode cX12_count 37 = .ok (.getfield 9, 3) := by decide +kernel
theorem dX12_count_40 : decode cX12_count 40 = .ok (.bipush 38, 2) := by decide +kernel
theorem dX12_count_42 : decode cX12_count 42 = .ok (.iaload, 1) := by decide +kernel
theorem dX12_count_43 : decode cX12_count 43 = .ok (.ireturn, 1) := by decide +kernel
theorem dX12_count_44 : decode cX12_count 44 = .ok (.aload_n 0, 1) := by decide +kernel
theorem dX12_count_45 : decode cX12_count 45 = .ok (.getfield 9, 3) := by decide +kernel
theorem dX12_count_48 : decode cX12_count 48 = .ok (.bipush 39, 2) := by decide +kernel
theorem dX12_count_50 : decode cX12_count 50 = .ok (.iaload, 1) := by decide +kernel
theorem dX12_count_51 : decode cX12_count 51 = .ok (.ireturn, 1) := by decide +kernel
theorem dX12_count_52 : decode cX12_count 52 = .ok (.aload_n 0, 1) := by decide +kernel
theorem dX12_count_53 : decode cX12_count 53 = .ok (.getfield 9, 3) := by decide +kernel
theorem dX12_count_56 : decode cX12_count 56 = .ok (.bipush 40, 2) := by decide +kernel
theorem dX12_count_58 : decode cX12_count 58 = .ok (.iaload, 1) := by decide +kernel
theorem dX12_count_59 : decode cX12_count 59 = .ok (.ireturn, 1) := by decide +kernel
theorem dX12_count_60 : decode cX12_count 60 = .ok (.aload_n 0, 1) := by decide +kernel
theorem dX12_count_61 : decode cX12_count 61 = .ok (.getfield 9, 3) := by decide +kernel
theorem dX12_count_64 : decode cX12_count 64 = .ok (.bipush 41, 2) := by decide +kernel
theorem dX12_count_66 : decode cX12_count 66 = .ok (.iaload, 1) := by decide +kernel
theorem dX12_count_67 : decode cX12_count 67 = .ok (.ireturn, 1) := by decide +kernel
theorem dX12_count_68 : decode cX12_count 68 = .ok (.aload_n 0, 1) := by decide +kernel
theorem dX12_count_69 : decode cX12_count 69 = .ok (.getfield 249, 3) := by decide +kernel
theorem dX12_count_72 : decode cX12_count 72 = .ok (.ireturn, 1) := by decide +kernel
theorem dX12_count_73 : decode cX12_count 73 = .ok (.iconst (-1), 1) := by decide +kernel
theorem dX12_count_74 : decode cX12_count 74 = .ok (.ireturn, 1) := by decide +kernel
