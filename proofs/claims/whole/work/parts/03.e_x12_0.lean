theorem dX12_init_0 : decode cX12_init 0 = .ok (.aload_n 0, 1) := by decide +kernel
theorem dX12_init_1 : decode cX12_init 1 = .ok (.invokespecial 3, 3) := by decide +kernel
theorem dX12_init_4 : decode cX12_init 4 = .ok (.aload_n 0, 1) := by decide +kernel
theorem dX12_init_5 : decode cX12_init 5 = .ok (.sipush 883, 3) := by decide +kernel
theorem dX12_init_8 : decode cX12_init 8 = .ok (.newarray .int, 2) := by decide +kernel
theorem dX12_init_10 : decode cX12_init 10 = .ok (.putfield 9, 3) := by decide +kernel
theorem dX12_init_13 : decode cX12_init 13 = .ok (.aload_n 0, 1) := by decide +kernel
theorem dX12_init_14 : decode cX12_init 14 = .ok (.sipush 883, 3) := by decide +kernel
theorem dX12_init_17 : decode cX12_init 17 = .ok (.newarray .int, 2) := by decide +kernel
theorem dX12_init_19 : decode cX12_init 19 = .ok (.putfield 15, 3) := by decide +kernel
theorem dX12_init_22 : decode cX12_init 22 = .ok (.aload_n 0, 1) := by decide +kernel
theorem dX12_init_23 : decode cX12_init 23 = .ok (.bipush 36, 2) := by decide +kernel
theorem dX12_init_25 : decode cX12_init 25 = .ok (.newarray .int, 2) := by decide +kernel
theorem dX12_init_27 : decode cX12_init 27 = .ok (.putfield 18, 3) := by decide +kernel
theorem dX12_init_30 : decode cX12_init 30 = .ok (.aload_n 0, 1) := by decide +kernel
theorem dX12_init_31 : decode cX12_init 31 = .ok (.bipush 6, 2) := by decide +kernel
theorem dX12_init_33 : decode cX12_init 33 = .ok (.newarray .int, 2) := by decide +kernel
theorem dX12_init_35 : decode cX12_init 35 = .ok (.putfield 21, 3) := by decide +kernel
theorem dX12_init_38 : decode cX12_init 38 = .ok (.aload_n 0, 1) := by decide +kernel
theorem dX12_init_39 : decode cX12_init 39 = .ok (.bipush 64, 2) := by decide +kernel
theorem dX12_init_41 : decode cX12_init 41 = .ok (.newarray .boolean, 2) := by decide +kernel
theorem dX12_init_43 : decode cX12_init 43 = .ok (.putfield 24, 3) := by decide +kernel
theorem dX12_init_46 : decode cX12_init 46 = .ok (.aload_n 0, 1) := by decide +kernel
theorem dX12_init_47 : decode cX12_init 47 = .ok (.sipush 210, 3) := by decide +kernel
theorem dX12_init_50 : decode cX12_init 50 = .ok (.newarray .int, 2) := by decide +kernel
theorem dX12_init_52 : decode cX12_init 52 = .ok (.putfield 28, 3) := by decide +kernel
theorem dX12_init_55 : decode cX12_init 55 = .ok (.aload_n 0, 1) := by decide +kernel
theorem dX12_init_56 : decode cX12_init 56 = .ok (.sipush 210, 3) := by decide +kernel
theorem dX12_init_59 : decode cX12_init 59 = .ok (.newarray .int, 2) := by decide +kernel
theorem dX12_init_61 : decode cX12_init 61 = .ok (.putfield 31, 3) := by decide +kernel
theorem dX12_init_64 : decode cX12_init 64 = .ok (.aload_n 0, 1) := by decide +kernel
theorem dX12_init_65 : decode cX12_init 65 = .ok (.sipush 210, 3) := by decide +kernel
theorem dX12_init_68 : decode cX12_init 68 = .ok (.newarray .int, 2) := by decide +kernel
theorem dX12_init_70 : decode cX12_init 70 = .ok (.putfield 34, 3) := by decide +kernel
theorem dX12_init_73 : decode cX12_init 73 = .ok (.aload_n 0, 1) := by decide +kernel
theorem dX12_init_74 : decode cX12_init 74 = .ok (.iconst 1, 1) := by decide +kernel
theorem dX12_init_75 : decode cX12_init 75 = .ok (.putfield 37, 3) := by decide +kernel
theorem dX12_init_78 : decode cX12_init 78 = .ok (.aload_n 0, 1) := by decide +kernel
theorem dX12_init_79 : decode cX12_init 79 = .ok (.iconst 2, 1) := by decide +kernel
theorem dX12_init_80 : decode cX12_init 80 = .ok (.newarray .int, 2) := by decide +kernel
theorem dX12_init_82 : decode cX12_init 82 = .ok (.putfield 41, 3) := by decide +kernel
theorem dX12_init_85 : decode cX12_init 85 = .ok (.aload_n 0, 1) := by decide +kernel
theorem dX12_init_86 : decode cX12_init 86 = .ok (.iconst 2, 1) := by decide +kernel
theorem dX12_init_87 : decode cX12_init 87 = .ok (.newarray .int, 2) := by decide +kernel
theorem dX12_init_89 : decode cX12_init 89 = .ok (.putfield 44, 3) := by decide +kernel
theorem dX12_init_92 : decode cX12_init 92 = .ok (.aload_n 0, 1) := by decide +kernel
theorem dX12_init_93 : decode cX12_init 93 = .ok (.bipush 20, 2) := by decide +kernel
theorem dX12_init_95 : decode cX12_init 95 = .ok (.newarray .int, 2) := by decide +kernel
theorem dX12_init_97 : decode cX12_init 97 = .ok (.putfield 47, 3) := by decide +kernel
theorem dX12_init_100 : decode cX12_init 100 = .ok (.aload_n 0, 1) := by decide +kernel
theorem dX12_init_101 : decode cX12_init 101 = .ok (.getfield 9, 3) := by decide +kernel
theorem dX12_init_104 : decode cX12_init 104 = .ok (.bipush 42, 2) := by decide +kernel
theorem dX12_init_106 : decode cX12_init 106 = .ok (.iconst (-1), 1) := by decide +kernel
theorem dX12_init_107 : decode cX12_init 107 = .ok (.iastore, 1) := by decide +kernel
theorem dX12_init_108 : decode cX12_init 108 = .ok (.aload_n 0, 1) := by decide +kernel
theorem dX12_init_109 : decode cX12_init 109 = .ok (.getfield 9, 3) := by decide +kernel
theorem dX12_init_112 : decode cX12_init 112 = .ok (.iconst 0, 1) := by decide +kernel
theorem dX12_init_113 : decode cX12_init 113 = .ok (.bipush 100, 2) := by decide +kernel
theorem dX12_init_115 : decode cX12_init 115 = .ok (.iastore, 1) := by decide +kernel
theorem dX12_init_116 : decode cX12_init 116 = .ok (.return_, 1) := by decide +kernel
theorem dX12_in_0 : decode cX12_in 0 = .ok (.iload_n 0, 1) := by decide +kernel
theorem dX12_in_1 : decode cX12_in 1 = .ok (.iload_n 1, 1) := by decide +kernel
theorem dX12_in_2 : decode cX12_in 2 = .ok (.if_icmp .lt 12, 3) := by decide +kernel
theorem dX12_in_5 : decode cX12_in 5 = .ok (.iload_n 0, 1) := by decide +kernel
theorem dX12_in_6 : decode cX12_in 6 = .ok (.iload_n 2, 1) := by decide +kernel
theorem dX12_in_7 : decode cX12_in 7 = .ok (.if_icmp .gt 7, 3) := by decide +kernel
theorem dX12_in_10 : decode cX12_in 10 = .ok (.iconst 1, 1) := by decide +kernel
theorem dX12_in_11 : decode cX12_in 11 = .ok (.goto 4, 3) := by decide +kernel
theorem dX12_in_14 : decode cX12_in 14 = .ok (.iconst 0, 1) := by decide +kernel
theorem dX12_in_15 : decode cX12_in 15 = .ok (.ireturn, 1) := by decide +kernel
set_option maxRecDepth 20000 in
theorem ggX12_isYard_X12_in : GoodIn wsX12_isYard wsX12_in := goodIn_r _ [4] (by decide +kernel) (by decide +kernel)
set_option maxRecDepth 20000 in
theorem gX12_isYard_X12_in : GoodIn wsX12_isYard (va_wsS RX12 53 yX12_in wsX12_in) := goodIn_app (goodIn_of _ (by decide +kernel)) ggX12_isYard_X12_in
theorem dX12_isYard_0 : decode cX12_isYard 0 = .ok (.iload_n 0, 1) := by decide +kernel
theorem dX12_isYard_1 : decode cX12_isYard 1 = .ok (.iconst 0, 1) := by decide +kernel
theorem dX12_isYard_2 : decode cX12_isYard 2 = .ok (.bipush 9, 2) := by decide +kernel
theorem dX12_isYard_4 : decode cX12_isYard 4 = .ok (.invokestatic 53, 3) := by decide +kernel
theorem dX12_isYard_7 : decode cX12_isYard 7 = .ok (.ireturn, 1) := by decide +kernel
set_option maxRecDepth 20000 in
theorem ggX12_isMan_X12_in : GoodIn wsX12_isMan wsX12_in := goodIn_r _ [5] (by decide +kernel) (by decide +kernel)
set_option maxRecDepth 20000 in
theorem gX12_isMan_X12_in : GoodIn wsX12_isMan (va_wsS RX12 53 yX12_in wsX12_in) := goodIn_app (goodIn_of _ (by decide +kernel)) ggX12_isMan_X12_in
theorem dX12_isMan_0 : decode cX12_isMan 0 = .ok (.iload_n 1, 1) := by decide +kernel
theorem dX12_isMan_1 : decode cX12_isMan 1 = .ok (.iconst 0, 1) := by decide +kernel
theorem dX12_isMan_2 : decode cX12_isMan 2 = .ok (.aload_n 0, 1) := by decide +kernel
theorem dX12_isMan_3 : decode cX12_isMan 3 = .ok (.getfield 9, 3) := by decide +kernel
theorem dX12_isMan_6 : decode cX12_isMan 6 = .ok (.bipush 38, 2) := by decide +kernel
theorem dX12_isMan_8 : decode cX12_isMan 8 = .ok (.iaload, 1) := by decide +kernel
theorem dX12_isMan_9 : decode cX12_isMan 9 = .ok (.iconst 1, 1) := by decide +kernel
theorem dX12_isMan_10 : decode cX12_isMan 10 = .ok (.isub, 1) := by decide +kernel
theorem dX12_isMan_11 : decode cX12_isMan 11 = .ok (.invokestatic 53, 3) := by decide +kernel
theorem dX12_isMan_14 : decode cX12_isMan 14 = .ok (.ireturn, 1) := by decide +kernel
set_option maxRecDepth 20000 in
theorem ggX12_isLoad_X12_in : GoodIn wsX12_isLoad wsX12_in := goodIn_r _ [4] (by decide +kernel) (by decide +kernel)
set_option maxRecDepth 20000 in
theorem gX12_isLoad_X12_in : GoodIn wsX12_isLoad (va_wsS RX12 53 yX12_in wsX12_in) := goodIn_app (goodIn_of _ (by decide +kernel)) ggX12_isLoad_X12_in
theorem dX12_isLoad_0 : decode cX12_isLoad 0 = .ok (.iload_n 0, 1) := by decide +kernel
theorem dX12_isLoad_1 : decode cX12_isLoad 1 = .ok (.iconst 1, 1) := by decide +kernel
theorem dX12_isLoad_2 : decode cX12_isLoad 2 = .ok (.bipush 20, 2) := by decide +kernel
theorem dX12_isLoad_4 : decode cX12_isLoad 4 = .ok (.invokestatic 53, 3) := by decide +kernel
theorem dX12_isLoad_7 : decode cX12_isLoad 7 = .ok (.ireturn, 1) := by decide +kernel
theorem dX12_keeps_0 : decode cX12_keeps 0 = .ok (.iconst 0, 1) := by decide +kernel
theorem dX12_keeps_1 : decode cX12_keeps 1 = .ok (.istore_n 2, 1) := by decide +kernel
theorem dX12_keeps_2 : decode cX12_keeps 2 = .ok (.iload_n 2, 1) := by decide +kernel
theorem dX12_keeps_3 : decode cX12_keeps 3 = .ok (.bipush 18, 2) := by decide +kernel
theorem dX12_keeps_5 : decode cX12_keeps 5 = .ok (.if_icmp .ge 26, 3) := by decide +kernel
theorem dX12_keeps_8 : decode cX12_keeps 8 = .ok (.aload_n 0, 1) := by decide +kernel
theorem dX12_keeps_9 : decode cX12_keeps 9 = .ok (.getfield 18, 3) := by decide +kernel
theorem dX12_keeps_12 : decode cX12_keeps 12 = .ok (.bipush 18, 2) := by decide +kernel
theorem dX12_keeps_14 : decode cX12_keeps 14 = .ok (.iload_n 1, 1) := by decide +kernel
theorem dX12_keeps_15 : decode cX12_keeps 15 = .ok (.imul, 1) := by decide +kernel
theorem dX12_keeps_16 : decode cX12_keeps 16 = .ok (.iload_n 2, 1) := by decide +kernel
theorem dX12_keeps_17 : decode cX12_keeps 17 = .ok (.iadd, 1) := by decide +kernel
theorem dX12_keeps_18 : decode cX12_keeps 18 = .ok (.aload_n 0, 1) := by decide +kernel
theorem dX12_keeps_19 : decode cX12_keeps 19 = .ok (.getfield 9, 3) := by decide +kernel
theorem dX12_keeps_22 : decode cX12_keeps 22 = .ok (.iload_n 2, 1) := by decide +kernel
theorem dX12_keeps_23 : decode cX12_keeps 23 = .ok (.iaload, 1) := by decide +kernel
theorem dX12_keeps_24 : decode cX12_keeps 24 = .ok (.iastore, 1) := by decide +kernel
theorem dX12_keeps_25 : decode cX12_keeps 25 = .ok (.iinc 2 1, 3) := by decide +kernel
theorem dX12_keeps_28 : decode cX12_keeps 28 = .ok (.goto (-26), 3) := by decide +kernel
theorem dX12_keeps_31 : decode cX12_keeps 31 = .ok (.return_, 1) := by decide +kernel
theorem dX12_goesBackTo_0 : decode cX12_goesBackTo 0 = .ok (.aload_n 0, 1) := by decide +kernel
theorem dX12_goesBackTo_1 : decode cX12_goesBackTo 1 = .ok (.dup, 1) := by decide +kernel
theorem dX12_goesBackTo_2 : decode cX12_goesBackTo 2 = .ok (.getfield 37, 3) := by decide +kernel
theorem dX12_goesBackTo_5 : decode cX12_goesBackTo 5 = .ok (.iconst 1, 1) := by decide +kernel
theorem dX12_goesBackTo_6 : decode cX12_goesBackTo 6 = .ok (.iadd, 1) := by decide +kernel
theorem dX12_goesBackTo_7 : decode cX12_goesBackTo 7 = .ok (.putfield 37, 3) := by decide +kernel
theorem dX12_goesBackTo_10 : decode cX12_goesBackTo 10 = .ok (.iconst 0, 1) := by decide +kernel
theorem dX12_goesBackTo_11 : decode cX12_goesBackTo 11 = .ok (.istore_n 2, 1) := by decide +kernel
theorem dX12_goesBackTo_12 : decode cX12_goesBackTo 12 = .ok (.iload_n 2, 1) := by decide +kernel
theorem dX12_goesBackTo_13 : decode cX12_goesBackTo 13 = .ok (.bipush 18, 2) := by decide +kernel
theorem dX12_goesBackTo_15 : decode cX12_goesBackTo 15 = .ok (.if_icmp .ge 26, 3) := by decide +kernel
theorem dX12_goesBackTo_18 : decode cX12_goesBackTo 18 = .ok (.aload_n 0, 1) := by decide +kernel
theorem dX12_goesBackTo_19 : decode cX12_goesBackTo 19 = .ok (.getfield 9, 3) := by decide +kernel
theorem dX12_goesBackTo_22 : decode cX12_goesBackTo 22 = .ok (.iload_n 2, 1) := by decide +kernel
theorem dX12_goesBackTo_23 : decode cX12_goesBackTo 23 = .ok (.aload_n 0, 1) := by decide +kernel
theorem dX12_goesBackTo_24 : decode cX12_goesBackTo 24 = .ok (.getfield 18, 3) := by decide +kernel
theorem dX12_goesBackTo_27 : decode cX12_goesBackTo 27 = .ok (.bipush 18, 2) := by decide +kernel
theorem dX12_goesBackTo_29 : decode cX12_goesBackTo 29 = .ok (.iload_n 1, 1) := by decide +kernel
theorem dX12_goesBackTo_30 : decode cX12_goesBackTo 30 = .ok (.imul, 1) := by decide +kernel
theorem dX12_goesBackTo_31 : decode cX12_goesBackTo 31 = .ok (.iload_n 2, 1) := by decide +kernel
theorem dX12_goesBackTo_32 : decode cX12_goesBackTo 32 = .ok (.iadd, 1) := by decide +kernel
theorem dX12_goesBackTo_33 : decode cX12_goesBackTo 33 = .ok (.iaload, 1) := by decide +kernel
theorem dX12_goesBackTo_34 : decode cX12_goesBackTo 34 = .ok (.iastore, 1) := by decide +kernel
theorem dX12_goesBackTo_35 : decode cX12_goesBackTo 35 = .ok (.iinc 2 1, 3) := by decide +kernel
theorem dX12_goesBackTo_38 : decode cX12_goesBackTo 38 = .ok (.goto (-26), 3) := by decide +kernel
theorem dX12_goesBackTo_41 : decode cX12_goesBackTo 41 = .ok (.return_, 1) := by decide +kernel
set_option maxRecDepth 20000 in
theorem ggX12_feed_X12_in : GoodIn wsX12_feed wsX12_in := goodIn_r _ [5] (by decide +kernel) (by decide +kernel)
set_option maxRecDepth 20000 in
theorem gX12_feed_X12_in : GoodIn wsX12_feed (va_wsS RX12 53 yX12_in wsX12_in) := goodIn_app (goodIn_of _ (by decide +kernel)) ggX12_feed_X12_in
theorem dX12_feed_0 : decode cX12_feed 0 = .ok (.iload_n 1, 1) := by decide +kernel
theorem dX12_feed_1 : decode cX12_feed 1 = .ok (.iconst 0, 1) := by decide +kernel
theorem dX12_feed_2 : decode cX12_feed 2 = .ok (.bipush 127, 2) := by decide +kernel
theorem dX12_feed_4 : decode cX12_feed 4 = .ok (.invokestatic 53, 3) := by decide +kernel
theorem dX12_feed_7 : decode cX12_feed 7 = .ok (.ifCond .ne 6, 3) := by decide +kernel
theorem dX12_feed_10 : decode cX12_feed 10 = .ok (.bipush (-2), 2) := by decide +kernel
theorem dX12_feed_12 : decode cX12_feed 12 = .ok (.ireturn, 1) := by decide +kernel
theorem dX12_feed_13 : decode cX12_feed 13 = .ok (.aload_n 0, 1) := by decide +kernel
theorem dX12_feed_14 : decode cX12_feed 14 = .ok (.getfield 9, 3) := by decide +kernel
theorem dX12_feed_17 : decode cX12_feed 17 = .ok (.bipush 41, 2) := by decide +kernel
theorem dX12_feed_19 : decode cX12_feed 19 = .ok (.iaload, 1) := by decide +kernel
theorem dX12_feed_20 : decode cX12_feed 20 = .ok (.bipush 100, 2) := by decide +kernel
theorem dX12_feed_22 : decode cX12_feed 22 = .ok (.if_icmp .ne 6, 3) := by decide +kernel
theorem dX12_feed_25 : decode cX12_feed 25 = .ok (.bipush (-4), 2) := by decide +kernel
theorem dX12_feed_27 : decode cX12_feed 27 = .ok (.ireturn, 1) := by decide +kernel
theorem dX12_feed_28 : decode cX12_feed 28 = .ok (.aload_n 0, 1) := by decide +kernel
theorem dX12_feed_29 : decode cX12_feed 29 = .ok (.getfield 9, 3) := by decide +kernel
theorem dX12_feed_32 : decode cX12_feed 32 = .ok (.bipush 68, 2) := by decide +kernel
theorem dX12_feed_34 : decode cX12_feed 34 = .ok (.aload_n 0, 1) := by decide +kernel
theorem dX12_feed_35 : decode cX12_feed 35 = .ok (.getfield 9, 3) := by decide +kernel
theorem dX12_feed_38 : decode cX12_feed 38 = .ok (.bipush 41, 2) := by decide +kernel
theorem dX12_feed_40 : decode cX12_feed 40 = .ok (.iaload, 1) := by decide +kernel
theorem dX12_feed_41 : decode cX12_feed 41 = .ok (.iadd, 1) := by decide +kernel
theorem dX12_feed_42 : decode cX12_feed 42 = .ok (.iload_n 1, 1) := by decide +kernel
theorem dX12_feed_43 : decode cX12_feed 43 = .ok (.iastore, 1) := by decide +kernel
theorem dX12_feed_44 : decode cX12_feed 44 = .ok (.aload_n 0, 1) := by decide +kernel
theorem dX12_feed_45 : decode cX12_feed 45 = .ok (.getfield 9, 3) := by decide +kernel
theorem dX12_feed_48 : decode cX12_feed 48 = .ok (.bipush 41, 2) := by decide +kernel
theorem dX12_feed_50 : decode cX12_feed 50 = .ok (.dup2, 1) := by decide +kernel
theorem dX12_feed_51 : decode cX12_feed 51 = .ok (.iaload, 1) := by decide +kernel
theorem dX12_feed_52 : decode cX12_feed 52 = .ok (.iconst 1, 1) := by decide +kernel
theorem dX12_feed_53 : decode cX12_feed 53 = .ok (.iadd, 1) := by decide +kernel
theorem dX12_feed_54 : decode cX12_feed 54 = .ok (.iastore, 1) := by decide +kernel
theorem dX12_feed_55 : decode cX12_feed 55 = .ok (.aload_n 0, 1) := by decide +kernel
theorem dX12_feed_56 : decode cX12_feed 56 = .ok (.getfield 9, 3) := by decide +kernel
theorem dX12_feed_59 : decode cX12_feed 59 = .ok (.bipush 41, 2) := by decide +kernel
theorem dX12_feed_61 : decode cX12_feed 61 = .ok (.iaload, 1) := by decide +kernel
theorem dX12_feed_62 : decode cX12_feed 62 = .ok (.ireturn, 1) := by decide +kernel
theorem dX12_here_0 : decode cX12_here 0 = .ok (.aload_n 0, 1) := by decide +kernel
theorem dX12_here_1 : decode cX12_here 1 = .ok (.getfield 57, 3) := by decide +kernel
theorem dX12_here_4 : decode cX12_here 4 = .ok (.aload_n 0, 1) := by decide +kernel
theorem dX12_here_5 : decode cX12_here 5 = .ok (.getfield 60, 3) := by decide +kernel
theorem dX12_here_8 : decode cX12_here 8 = .ok (.if_icmp .ge 18, 3) := by decide +kernel
theorem dX12_here_11 : decode cX12_here 11 = .ok (.aload_n 0, 1) := by decide +kernel
theorem dX12_here_12 : decode cX12_here 12 = .ok (.getfield 9, 3) := by decide +kernel
theorem dX12_here_15 : decode cX12_here 15 = .ok (.bipush 68, 2) := by decide +kernel
theorem dX12_here_17 : decode cX12_here 17 = .ok (.aload_n 0, 1) := by decide +kernel
theorem dX12_here_18 : decode cX12_here 18 = .ok (.getfield 57, 3) := by decide +kernel
theorem dX12_here_21 : decode cX12_here 21 = .ok (.iadd, 1) := by decide +kernel
theorem dX12_here_22 : decode cX12_here 22 = .ok (.iaload, 1) := by decide +kernel
theorem dX12_here_23 : decode cX12_here 23 = .ok (.goto 4, 3) := by decide +kernel
theorem dX12_here_26 : decode cX12_here 26 = .ok (.iconst (-1), 1) := by decide +kernel
theorem dX12_here_27 : decode cX12_here 27 = .ok (.ireturn, 1) := by decide +kernel
set_option maxRecDepth 20000 in
theorem ggX12_must_X12_here : GoodIn wsX12_must wsX12_here := goodIn_r _ [7, 2, 8, 9, 10, 11, 12, 13, 14, 15, 16, 17, 18, 19, 20, 21, 22, 23, 24, 25, 26, 27, 28, 29, 30, 31, 32, 33, 34, 35, 36, 37, 38, 39] (by decide +kernel) (by decide +kernel)
set_option maxRecDepth 20000 in
theorem gX12_must_X12_here : GoodIn wsX12_must (wsV RX12 67 RX12 yX12_here wsX12_here) := goodIn_app (goodIn_of _ (by decide +kernel)) ggX12_must_X12_here
theorem dX12_must_0 : decode cX12_must 0 = .ok (.aload_n 0, 1) := by decide +kernel
theorem dX12_must_1 : decode cX12_must 1 = .ok (.aload_n 0, 1) := by decide +kernel
theorem dX12_must_2 : decode cX12_must 2 = .ok (.getfield 63, 3) := by decide +kernel
theorem dX12_must_5 : decode cX12_must 5 = .ok (.ifCond .ne 11, 3) := by decide +kernel
theorem dX12_must_8 : decode cX12_must 8 = .ok (.aload_n 0, 1) := by decide +kernel
theorem dX12_must_9 : decode cX12_must 9 = .ok (.invokevirtual 67, 3) := by decide +kernel
theorem dX12_must_12 : decode cX12_must 12 = .ok (.iload_n 1, 1) := by decide +kernel
theorem dX12_must_13 : decode cX12_must 13 = .ok (.if_icmp .eq 7, 3) := by decide +kernel
theorem dX12_must_16 : decode cX12_must 16 = .ok (.iconst 1, 1) := by decide +kernel
theorem dX12_must_17 : decode cX12_must 17 = .ok (.goto 4, 3) := by decide +kernel
theorem dX12_must_20 : decode cX12_must 20 = .ok (.iconst 0, 1) := by decide +kernel
theorem dX12_must_21 : decode cX12_must 21 = .ok (.putfield 63, 3) := by decide +kernel
theorem dX12_must_24 : decode cX12_must 24 = .ok (.aload_n 0, 1) := by decide +kernel
theorem dX12_must_25 : decode cX12_must 25 = .ok (.dup, 1) := by decide +kernel
theorem dX12_must_26 : decode cX12_must 26 = .ok (.getfield 57, 3) := by decide +kernel
theorem dX12_must_29 : decode cX12_must 29 = .ok (.aload_n 0, 1) := by decide +kernel
theorem dX12_must_30 : decode cX12_must 30 = .ok (.getfield 63, 3) := by decide +kernel
theorem dX12_must_33 : decode cX12_must 33 = .ok (.ifCond .eq 7, 3) := by decide +kernel
theorem dX12_must_36 : decode cX12_must 36 = .ok (.iconst 0, 1) := by decide +kernel
theorem dX12_must_37 : decode cX12_must 37 = .ok (.goto 4, 3) := by decide +kernel
theorem dX12_must_40 : decode cX12_must 40 = .ok (.iconst 1, 1) := by decide +kernel
theorem dX12_must_41 : decode cX12_must 41 = .ok (.iadd, 1) := by decide +kernel
theorem dX12_must_42 : decode cX12_must 42 = .ok (.putfield 57, 3) := by decide +kernel
theorem dX12_must_45 : decode cX12_must 45 = .ok (.return_, 1) := by decide +kernel
set_option maxRecDepth 20000 in
theorem ggX12_spells_J0_length_8abf5 : GoodIn wsX12_spells wsJ0_length_8abf5 := goodIn_r _ [5, 6, 7, 8, 9, 4, 10, 11, 12] (by decide +kernel) (by decide +kernel)
set_option maxRecDepth 20000 in
theorem gX12_spells_J0_length_8abf5 : GoodIn wsX12_spells (wsV RX12 71 RJ0 yJ0_length_8abf5 wsJ0_length_8abf5) := goodIn_app (goodIn_of _ (by decide +kernel)) ggX12_spells_J0_length_8abf5
set_option maxRecDepth 20000 in
theorem ggX12_spells_J0_charAt_5068e : GoodIn wsX12_spells wsJ0_charAt_5068e := goodIn_r _ [16, 6, 17, 18, 19, 4, 20, 11, 12, 21, 22, 23, 24, 25, 26, 27, 28, 29, 30, 31, 32, 33, 34, 35, 36, 37, 38, 39, 40, 41, 42, 43, 44, 45, 46, 47, 48, 49] (by decide +kernel) (by decide +kernel)
set_option maxRecDepth 20000 in
theorem gX12_spells_J0_charAt_5068e : GoodIn wsX12_spells (wsV RX12 76 RJ0 yJ0_charAt_5068e wsJ0_charAt_5068e) := goodIn_app (goodIn_of _ (by decide +kernel)) ggX12_spells_J0_charAt_5068e
set_option maxRecDepth 20000 in
theorem ggX12_spells_X12_must : GoodIn wsX12_spells wsX12_must := goodIn_r _ [54, 55, 56, 57, 58, 59, 53, 60, 61, 62, 63, 64, 65, 66, 67, 68, 69, 70, 71, 72, 73, 74, 75, 76, 77, 78, 79, 80, 81, 82, 83, 84, 85, 86, 87, 88, 89, 90, 91, 92] (by decide +kernel) (by decide +kernel)
set_option maxRecDepth 20000 in
theorem gX12_spells_X12_must : GoodIn wsX12_spells (wsV RX12 80 RX12 yX12_must wsX12_must) := goodIn_app (goodIn_of _ (by decide +kernel)) ggX12_spells_X12_must
theorem dX12_spells_0 : decode cX12_spells 0 = .ok (.iconst 0, 1) := by decide +kernel
theorem dX12_spells_1 : decode cX12_spells 1 = .ok (.istore_n 2, 1) := by decide +kernel
theorem dX12_spells_2 : decode cX12_spells 2 = .ok (.iload_n 2, 1) := by decide +kernel
theorem dX12_spells_3 : decode cX12_spells 3 = .ok (.aload_n 1, 1) := by decide +kernel
theorem dX12_spells_4 : decode cX12_spells 4 = .ok (.invokevirtual 71, 3) := by decide +kernel
theorem dX12_spells_7 : decode cX12_spells 7 = .ok (.if_icmp .ge 18, 3) := by decide +kernel
theorem dX12_spells_10 : decode cX12_spells 10 = .ok (.aload_n 0, 1) := by decide +kernel
theorem dX12_spells_11 : decode cX12_spells 11 = .ok (.aload_n 1, 1) := by decide +kernel
theorem dX12_spells_12 : decode cX12_spells 12 = .ok (.iload_n 2, 1) := by decide +kernel
theorem dX12_spells_13 : decode cX12_spells 13 = .ok (.invokevirtual 76, 3) := by decide +kernel
theorem dX12_spells_16 : decode cX12_spells 16 = .ok (.invokevirtual 80, 3) := by decide +kernel
theorem dX12_spells_19 : decode cX12_spells 19 = .ok (.iinc 2 1, 3) := by decide +kernel
theorem dX12_spells_22 : decode cX12_spells 22 = .ok (.goto (-20), 3) := by decide +kernel
theorem dX12_spells_25 : decode cX12_spells 25 = .ok (.return_, 1) := by decide +kernel
set_option maxRecDepth 20000 in
theorem ggX12_figures_X12_here : GoodIn wsX12_figures wsX12_here := goodIn_r _ [7, 2, 8, 9, 13, 14, 15, 16, 17, 18, 19, 20, 21, 22, 23, 24, 25, 26, 27, 28, 29, 30, 31, 32, 33, 34, 35, 36, 37, 38, 39, 40, 41, 42] (by decide +kernel) (by decide +kernel)
set_option maxRecDepth 20000 in
theorem gX12_figures_X12_here : GoodIn wsX12_figures (wsV RX12 67 RX12 yX12_here wsX12_here) := goodIn_app (goodIn_of _ (by decide +kernel)) ggX12_figures_X12_here
set_option maxRecDepth 20000 in
theorem ggX12_figures_X12_in : GoodIn wsX12_figures wsX12_in := goodIn_r _ [12] (by decide +kernel) (by decide +kernel)
set_option maxRecDepth 20000 in
theorem gX12_figures_X12_in : GoodIn wsX12_figures (va_wsS RX12 53 yX12_in wsX12_in) := goodIn_app (goodIn_of _ (by decide +kernel)) ggX12_figures_X12_in
theorem dX12_figures_0 : decode cX12_figures 0 = .ok (.aload_n 0, 1) := by decide +kernel
theorem dX12_figures_1 : decode cX12_figures 1 = .ok (.aload_n 0, 1) := by decide +kernel
theorem dX12_figures_2 : decode cX12_figures 2 = .ok (.getfield 63, 3) := by decide +kernel
theorem dX12_figures_5 : decode cX12_figures 5 = .ok (.ifCond .ne 17, 3) := by decide +kernel
theorem dX12_figures_8 : decode cX12_figures 8 = .ok (.aload_n 0, 1) := by decide +kernel
theorem dX12_figures_9 : decode cX12_figures 9 = .ok (.invokevirtual 67, 3) := by decide +kernel
theorem dX12_figures_12 : decode cX12_figures 12 = .ok (.bipush 48, 2) := by decide +kernel
theorem dX12_figures_14 : decode cX12_figures 14 = .ok (.bipush 57, 2) := by decide +kernel
theorem dX12_figures_16 : decode cX12_figures 16 = .ok (.invokestatic 53, 3) := by decide +kernel
theorem dX12_figures_19 : decode cX12_figures 19 = .ok (.ifCond .ne 7, 3) := by decide +kernel
theorem dX12_figures_22 : decode cX12_figures 22 = .ok (.iconst 1, 1) := by decide +kernel
theorem dX12_figures_23 : decode cX12_figures 23 = .ok (.goto 4, 3) := by decide +kernel
theorem dX12_figures_26 : decode cX12_figures 26 = .ok (.iconst 0, 1) := by decide +kernel
theorem dX12_figures_27 : decode cX12_figures 27 = .ok (.putfield 63, 3) := by decide +kernel
theorem dX12_figures_30 : decode cX12_figures 30 = .ok (.iconst 0, 1) := by decide +kernel
theorem dX12_figures_31 : decode cX12_figures 31 = .ok (.istore_n 1, 1) := by decide +kernel
theorem dX12_figures_32 : decode cX12_figures 32 = .ok (.iconst 0, 1) := by decide +kernel
theorem dX12_figures_33 : decode cX12_figures 33 = .ok (.istore_n 2, 1) := by decide +kernel
theorem dX12_figures_34 : decode cX12_figures 34 = .ok (.iload_n 2, 1) := by decide +kernel
theorem dX12_figures_35 : decode cX12_figures 35 = .ok (.iconst 2, 1) := by decide +kernel
theorem dX12_figures_36 : decode cX12_figures 36 = .ok (.if_icmp .ge 61, 3) := by decide +kernel
theorem dX12_figures_39 : decode cX12_figures 39 = .ok (.aload_n 0, 1) := by decide +kernel
theorem dX12_figures_40 : decode cX12_figures 40 = .ok (.getfield 63, 3) := by decide +kernel
theorem dX12_figures_43 : decode cX12_figures 43 = .ok (.ifCond .ne 54, 3) := by decide +kernel
theorem dX12_figures_46 : decode cX12_figures 46 = .ok (.aload_n 0, 1) := by decide +kernel
theorem dX12_figures_47 : decode cX12_figures 47 = .ok (.invokevirtual 67, 3) := by decide +kernel
theorem dX12_figures_50 : decode cX12_figures 50 = .ok (.bipush 48, 2) := by decide +kernel
theorem dX12_figures_52 : decode cX12_figures 52 = .ok (.bipush 57, 2) := by decide +kernel
theorem dX12_figures_54 : decode cX12_figures 54 = .ok (.invokestatic 53, 3) := by decide +kernel
theorem dX12_figures_57 : decode cX12_figures 57 = .ok (.ifCond .eq 40, 3) := by decide +kernel
theorem dX12_figures_60 : decode cX12_figures 60 = .ok (.iload_n 2, 1) := by decide +kernel
theorem dX12_figures_61 : decode cX12_figures 61 = .ok (.ifCond .eq 7, 3) := by decide +kernel
theorem dX12_figures_64 : decode cX12_figures 64 = .ok (.iload_n 1, 1) := by decide +kernel
theorem dX12_figures_65 : decode cX12_figures 65 = .ok (.ifCond .le 32, 3) := by decide +kernel
theorem dX12_figures_68 : decode cX12_figures 68 = .ok (.bipush 10, 2) := by decide +kernel
theorem dX12_figures_70 : decode cX12_figures 70 = .ok (.iload_n 1, 1) := by decide +kernel
theorem dX12_figures_71 : decode cX12_figures 71 = .ok (.imul, 1) := by decide +kernel
theorem dX12_figures_72 : decode cX12_figures 72 = .ok (.aload_n 0, 1) := by decide +kernel
theorem dX12_figures_73 : decode cX12_figures 73 = .ok (.invokevirtual 67, 3) := by decide +kernel
theorem dX12_figures_76 : decode cX12_figures 76 = .ok (.iadd, 1) := by decide +kernel
theorem dX12_figures_77 : decode cX12_figures 77 = .ok (.bipush 48, 2) := by decide +kernel
theorem dX12_figures_79 : decode cX12_figures 79 = .ok (.isub, 1) := by decide +kernel
theorem dX12_figures_80 : decode cX12_figures 80 = .ok (.istore_n 1, 1) := by decide +kernel
theorem dX12_figures_81 : decode cX12_figures 81 = .ok (.aload_n 0, 1) := by decide +kernel
theorem dX12_figures_82 : decode cX12_figures 82 = .ok (.dup, 1) := by decide +kernel
theorem dX12_figures_83 : decode cX12_figures 83 = .ok (.getfield 57, 3) := by decide +kernel
theorem dX12_figures_86 : decode cX12_figures 86 = .ok (.iconst 1, 1) := by decide +kernel
theorem dX12_figures_87 : decode cX12_figures 87 = .ok (.iadd, 1) := by decide +kernel
theorem dX12_figures_88 : decode cX12_figures 88 = .ok (.putfield 57, 3) := by decide +kernel
theorem dX12_figures_91 : decode cX12_figures 91 = .ok (.iinc 2 1, 3) := by decide +kernel
theorem dX12_figures_94 : decode cX12_figures 94 = .ok (.goto (-60), 3) := by decide +kernel
theorem dX12_figures_97 : decode cX12_figures 97 = .ok (.iload_n 1, 1) := by decide +kernel
theorem dX12_figures_98 : decode cX12_figures 98 = .ok (.ireturn, 1) := by decide +kernel
set_option maxRecDepth 20000 in
theorem ggX12_among_J0_length_8abf5 : GoodIn wsX12_among wsJ0_length_8abf5 := goodIn_r _ [6, 7, 8, 9, 10, 5, 11, 12, 13] (by decide +kernel) (by decide +kernel)
set_option maxRecDepth 20000 in
theorem gX12_among_J0_length_8abf5 : GoodIn wsX12_among (wsV RX12 71 RJ0 yJ0_length_8abf5 wsJ0_length_8abf5) := goodIn_app (goodIn_of _ (by decide +kernel)) ggX12_among_J0_length_8abf5
set_option maxRecDepth 20000 in
theorem ggX12_among_X12_here : GoodIn wsX12_among wsX12_here := goodIn_r _ [18, 1, 19, 20, 58, 59, 60, 61, 62, 63, 64, 65, 66, 67, 68, 69, 70, 71, 72, 73, 74, 75, 76, 77, 78, 79, 80, 81, 82, 83, 84, 85, 86, 87] (by decide +kernel) (by decide +kernel)
set_option maxRecDepth 20000 in
theorem gX12_among_X12_here : GoodIn wsX12_among (wsV RX12 67 RX12 yX12_here wsX12_here) := goodIn_app (goodIn_of _ (by decide +kernel)) ggX12_among_X12_here
set_option maxRecDepth 20000 in
theorem ggX12_among_J0_charAt_5068e : GoodIn wsX12_among wsJ0_charAt_5068e := goodIn_r _ [24, 7, 25, 26, 27, 5, 28, 12, 13, 29, 30, 31, 32, 33, 34, 35, 36, 37, 38, 39, 40, 41, 42, 43, 44, 45, 46, 47, 48, 49, 50, 51, 52, 53, 54, 55, 56, 57] (by decide +kernel) (by decide +kernel)
set_option maxRecDepth 20000 in
theorem gX12_among_J0_charAt_5068e : GoodIn wsX12_among (wsV RX12 76 RJ0 yJ0_charAt_5068e wsJ0_charAt_5068e) := goodIn_app (goodIn_of _ (by decide +kernel)) ggX12_among_J0_charAt_5068e
theorem dX12_among_0 : decode cX12_among 0 = .ok (.iconst 0, 1) := by decide +kernel
theorem dX12_among_1 : decode cX12_among 1 = .ok (.istore_n 2, 1) := by decide +kernel
theorem dX12_among_2 : decode cX12_among 2 = .ok (.iload_n 2, 1) := by decide +kernel
theorem dX12_among_3 : decode cX12_among 3 = .ok (.aload_n 1, 1) := by decide +kernel
theorem dX12_among_4 : decode cX12_among 4 = .ok (.invokevirtual 71, 3) := by decide +kernel
theorem dX12_among_7 : decode cX12_among 7 = .ok (.if_icmp .ge 33, 3) := by decide +kernel
theorem dX12_among_10 : decode cX12_among 10 = .ok (.aload_n 0, 1) := by decide +kernel
theorem dX12_among_11 : decode cX12_among 11 = .ok (.invokevirtual 67, 3) := by decide +kernel
theorem dX12_among_14 : decode cX12_among 14 = .ok (.aload_n 1, 1) := by decide +kernel
theorem dX12_among_15 : decode cX12_among 15 = .ok (.iload_n 2, 1) := by decide +kernel
theorem dX12_among_16 : decode cX12_among 16 = .ok (.invokevirtual 76, 3) := by decide +kernel
theorem dX12_among_19 : decode cX12_among 19 = .ok (.if_icmp .ne 15, 3) := by decide +kernel
theorem dX12_among_22 : decode cX12_among 22 = .ok (.aload_n 0, 1) := by decide +kernel
theorem dX12_among_23 : decode cX12_among 23 = .ok (.dup, 1) := by decide +kernel
theorem dX12_among_24 : decode cX12_among 24 = .ok (.getfield 57, 3) := by decide +kernel
theorem dX12_among_27 : decode cX12_among 27 = .ok (.iconst 1, 1) := by decide +kernel
theorem dX12_among_28 : decode cX12_among 28 = .ok (.iadd, 1) := by decide +kernel
theorem dX12_among_29 : decode cX12_among 29 = .ok (.putfield 57, 3) := by decide +kernel
theorem dX12_among_32 : decode cX12_among 32 = .ok (.iload_n 2, 1) := by decide +kernel
theorem dX12_among_33 : decode cX12_among 33 = .ok (.ireturn, 1) := by decide +kernel
theorem dX12_among_34 : decode cX12_among 34 = .ok (.iinc 2 1, 3) := by decide +kernel
theorem dX12_among_37 : decode cX12_among 37 = .ok (.goto (-35), 3) := by decide +kernel
theorem dX12_among_40 : decode cX12_among 40 = .ok (.iconst (-1), 1) := by decide +kernel
theorem dX12_among_41 : decode cX12_among 41 = .ok (.ireturn, 1) := by decide +kernel
theorem dX12_emits_0 : decode cX12_emits 0 = .ok (.aload_n 0, 1) := by decide +kernel
theorem dX12_emits_1 : decode cX12_emits 1 = .ok (.getfield 63, 3) := by decide +kernel
theorem dX12_emits_4 : decode cX12_emits 4 = .ok (.ifCond .ne 52, 3) := by decide +kernel
theorem dX12_emits_7 : decode cX12_emits 7 = .ok (.aload_n 0, 1) := by decide +kernel
theorem dX12_emits_8 : decode cX12_emits 8 = .ok (.getfield 9, 3) := by decide +kernel
theorem dX12_emits_11 : decode cX12_emits 11 = .ok (.sipush 183, 3) := by decide +kernel
theorem dX12_emits_14 : decode cX12_emits 14 = .ok (.sipush 140, 3) := by decide +kernel
theorem dX12_emits_17 : decode cX12_emits 17 = .ok (.aload_n 0, 1) := by decide +kernel
theorem dX12_emits_18 : decode cX12_emits 18 = .ok (.getfield 84, 3) := by decide +kernel
theorem dX12_emits_21 : decode cX12_emits 21 = .ok (.imul, 1) := by decide +kernel
theorem dX12_emits_22 : decode cX12_emits 22 = .ok (.iadd, 1) := by decide +kernel
theorem dX12_emits_23 : decode cX12_emits 23 = .ok (.aload_n 0, 1) := by decide +kernel
theorem dX12_emits_24 : decode cX12_emits 24 = .ok (.getfield 9, 3) := by decide +kernel
theorem dX12_emits_27 : decode cX12_emits 27 = .ok (.sipush 178, 3) := by decide +kernel
theorem dX12_emits_30 : decode cX12_emits 30 = .ok (.aload_n 0, 1) := by decide +kernel
theorem dX12_emits_31 : decode cX12_emits 31 = .ok (.getfield 84, 3) := by decide +kernel
theorem dX12_emits_34 : decode cX12_emits 34 = .ok (.iadd, 1) := by decide +kernel
theorem dX12_emits_35 : decode cX12_emits 35 = .ok (.iaload, 1) := by decide +kernel
theorem dX12_emits_36 : decode cX12_emits 36 = .ok (.iadd, 1) := by decide +kernel
theorem dX12_emits_37 : decode cX12_emits 37 = .ok (.iload_n 1, 1) := by decide +kernel
theorem dX12_emits_38 : decode cX12_emits 38 = .ok (.iastore, 1) := by decide +kernel
theorem dX12_emits_39 : decode cX12_emits 39 = .ok (.aload_n 0, 1) := by decide +kernel
theorem dX12_emits_40 : decode cX12_emits 40 = .ok (.getfield 9, 3) := by decide +kernel
theorem dX12_emits_43 : decode cX12_emits 43 = .ok (.sipush 178, 3) := by decide +kernel
theorem dX12_emits_46 : decode cX12_emits 46 = .ok (.aload_n 0, 1) := by decide +kernel
theorem dX12_emits_47 : decode cX12_emits 47 = .ok (.getfield 84, 3) := by decide +kernel
theorem dX12_emits_50 : decode cX12_emits 50 = .ok (.iadd, 1) := by decide +kernel
theorem dX12_emits_51 : decode cX12_emits 51 = .ok (.dup2, 1) := by decide +kernel
theorem dX12_emits_52 : decode cX12_emits 52 = .ok (.iaload, 1) := by decide +kernel
theorem dX12_emits_53 : decode cX12_emits 53 = .ok (.iconst 1, 1) := by decide +kernel
theorem dX12_emits_54 : decode cX12_emits 54 = .ok (.iadd, 1) := by decide +kernel
theorem dX12_emits_55 : decode cX12_emits 55 = .ok (.iastore, 1) := by decide +kernel
theorem dX12_emits_56 : decode cX12_emits 56 = .ok (.return_, 1) := by decide +kernel
set_option maxRecDepth 20000 in
theorem ggX12_factor_X12_here : GoodIn wsX12_factor wsX12_here := goodIn_r _ [8, 3, 9, 10, 91, 92, 93, 94, 95, 96, 97, 98, 99, 100, 101, 102, 103, 104, 105, 106, 107, 108, 109, 110, 111, 112, 113, 114, 115, 116, 117, 118, 119, 120] (by decide +kernel) (by decide +kernel)
set_option maxRecDepth 20000 in
theorem gX12_factor_X12_here : GoodIn wsX12_factor (wsV RX12 67 RX12 yX12_here wsX12_here) := goodIn_app (goodIn_of _ (by decide +kernel)) ggX12_factor_X12_here
set_option maxRecDepth 20000 in
theorem ggX12_factor_X12_factor : GoodIn wsX12_factor wsX12_factor := goodIn_r _ [0, 1, 2, 3, 4, 5, 6, 7, 8, 9, 10, 11, 12, 13, 14, 15, 16, 17, 18, 19, 20, 21, 22, 23, 24, 25, 26, 27, 28, 29, 30, 31, 32, 33, 34, 35, 36, 37, 38, 39, 40, 41, 42, 43, 44, 45, 46, 47, 48, 49, 50, 51, 52, 53, 54, 55, 56, 57, 58, 59, 60, 61, 62, 63, 64, 65, 66, 67, 68, 69, 70, 71, 72, 73, 74, 75, 76, 77, 78, 79, 80, 81, 82, 83, 84, 85, 86, 87, 88, 89, 90, 91, 92, 93, 94, 95, 96, 97, 98, 99, 100, 101, 102, 103, 104, 105, 106, 107, 108, 109, 110, 111, 112, 113, 114, 115, 116, 117, 118, 119, 120] (by decide +kernel) (by decide +kernel)
set_option maxRecDepth 20000 in
theorem gX12_factor_X12_factor : GoodIn wsX12_factor (wsV RX12 90 RX12 yX12_factor wsX12_factor) := goodIn_app (goodIn_of _ (by decide +kernel)) ggX12_factor_X12_factor
set_option maxRecDepth 20000 in
theorem ggX12_factor_X12_emits : GoodIn wsX12_factor wsX12_emits := goodIn_r _ [17, 1, 10, 18, 91, 92, 93, 94, 95, 96, 97, 98, 99, 100, 101, 102, 103, 104, 105, 106, 107, 108, 109, 110, 111, 112, 113, 114, 115, 116, 117, 118, 119, 120] (by decide +kernel) (by decide +kernel)
set_option maxRecDepth 20000 in
theorem gX12_factor_X12_emits : GoodIn wsX12_factor (wsV RX12 93 RX12 yX12_emits wsX12_emits) := goodIn_app (goodIn_of _ (by decide +kernel)) ggX12_factor_X12_emits
set_option maxRecDepth 20000 in
theorem ggX12_factor_X12_some : GoodIn wsX12_factor wsX12_some := goodIn_r _ [87, 1, 3, 88, 89, 90, 7, 4, 5, 6, 8, 9, 10, 14, 15, 16, 17, 18, 86, 11, 12, 13, 0, 2, 19, 20, 21, 22, 23, 24, 25, 26, 27, 28, 29, 30, 31, 32, 33, 34, 35, 36, 37, 38, 39, 40, 41, 42, 43, 44, 45, 46, 47, 48, 49, 50, 51, 52, 53, 54, 55, 56, 57, 58, 59, 60, 61, 62, 63, 64, 65, 66, 67, 68, 69, 70, 71, 72, 73, 74, 75, 76, 77, 78, 79, 80, 81, 82, 83, 84, 85, 91, 92, 93, 94, 95, 96, 97, 98, 99, 100, 101, 102, 103, 104, 105, 106, 107, 108, 109, 110, 111, 112, 113, 114, 115, 116, 117, 118, 119, 120] (by decide +kernel) (by decide +kernel)
set_option maxRecDepth 20000 in
theorem gX12_factor_X12_some : GoodIn wsX12_factor (wsV RX12 96 RX12 yX12_some wsX12_some) := goodIn_app (goodIn_of _ (by decide +kernel)) ggX12_factor_X12_some
set_option maxRecDepth 20000 in
theorem ggX12_factor_X12_must : GoodIn wsX12_factor wsX12_must := goodIn_r _ [25, 1, 3, 4, 5, 6, 7, 8, 9, 10, 91, 92, 93, 94, 95, 96, 97, 98, 99, 100, 101, 102, 103, 104, 105, 106, 107, 108, 109, 110, 111, 112, 113, 114, 115, 116, 117, 118, 119, 120] (by decide +kernel) (by decide +kernel)
set_option maxRecDepth 20000 in
theorem gX12_factor_X12_must : GoodIn wsX12_factor (wsV RX12 80 RX12 yX12_must wsX12_must) := goodIn_app (goodIn_of _ (by decide +kernel)) ggX12_factor_X12_must
set_option maxRecDepth 20000 in
theorem ggX12_factor_X12_among : GoodIn wsX12_factor wsX12_among := goodIn_r _ [29, 3, 30, 31, 32, 33, 34, 35, 36, 37, 38, 39, 40, 41, 4, 5, 6, 7, 8, 9, 10, 42, 43, 44, 45, 46, 47, 48, 49, 50, 51, 52, 53, 54, 55, 56, 57, 58, 59, 60, 61, 62, 63, 64, 65, 66, 67, 68, 69, 70, 71, 72, 73, 74, 75, 76, 77, 78, 91, 92, 93, 94, 95, 96, 97, 98, 99, 100, 101, 102, 103, 104, 105, 106, 107, 108, 109, 110, 111, 112, 113, 114, 115, 116, 117, 118, 119, 120] (by decide +kernel) (by decide +kernel)
set_option maxRecDepth 20000 in
theorem gX12_factor_X12_among : GoodIn wsX12_factor (wsV RX12 101 RX12 yX12_among wsX12_among) := goodIn_app (goodIn_of _ (by decide +kernel)) ggX12_factor_X12_among
set_option maxRecDepth 20000 in
theorem ggX12_factor_X12_figures : GoodIn wsX12_factor wsX12_figures := goodIn_r _ [82, 1, 3, 4, 5, 6, 7, 8, 9, 10, 83, 84, 85, 91, 92, 93, 94, 95, 96, 97, 98, 99, 100, 101, 102, 103, 104, 105, 106, 107, 108, 109, 110, 111, 112, 113, 114, 115, 116, 117, 118, 119, 120] (by decide +kernel) (by decide +kernel)
set_option maxRecDepth 20000 in
theorem gX12_factor_X12_figures : GoodIn wsX12_factor (wsV RX12 107 RX12 yX12_figures wsX12_figures) := goodIn_app (goodIn_of _ (by decide +kernel)) ggX12_factor_X12_figures
theorem dX12_factor_0 : decode cX12_factor 0 = .ok (.aload_n 0, 1) := by decide +kernel
theorem dX12_factor_1 : decode cX12_factor 1 = .ok (.getfield 63, 3) := by decide +kernel
theorem dX12_factor_4 : decode cX12_factor 4 = .ok (.ifCond .eq 4, 3) := by decide +kernel
theorem dX12_factor_7 : decode cX12_factor 7 = .ok (.return_, 1) := by decide +kernel
theorem dX12_factor_8 : decode cX12_factor 8 = .ok (.aload_n 0, 1) := by decide +kernel
theorem dX12_factor_9 : decode cX12_factor 9 = .ok (.invokevirtual 67, 3) := by decide +kernel
theorem dX12_factor_12 : decode cX12_factor 12 = .ok (.istore_n 1, 1) := by decide +kernel
theorem dX12_factor_13 : decode cX12_factor 13 = .ok (.iload_n 1, 1) := by decide +kernel
theorem dX12_factor_14 : decode cX12_factor 14 = .ok (.bipush 33, 2) := by decide +kernel
theorem dX12_factor_16 : decode cX12_factor 16 = .ok (.if_icmp .eq 9, 3) := by decide +kernel
theorem dX12_factor_19 : decode cX12_factor 19 = .ok (.iload_n 1, 1) := by decide +kernel
theorem dX12_factor_20 : decode cX12_factor 20 = .ok (.bipush 40, 2) := by decide +kernel
theorem dX12_factor_22 : decode cX12_factor 22 = .ok (.if_icmp .ne 90, 3) := by decide +kernel
theorem dX12_factor_25 : decode cX12_factor 25 = .ok (.aload_n 0, 1) := by decide +kernel
theorem dX12_factor_26 : decode cX12_factor 26 = .ok (.aload_n 0, 1) := by decide +kernel
theorem dX12_factor_27 : decode cX12_factor 27 = .ok (.getfield 87, 3) := by decide +kernel
theorem dX12_factor_30 : decode cX12_factor 30 = .ok (.iconst 5, 1) := by decide +kernel
theorem dX12_factor_31 : decode cX12_factor 31 = .ok (.if_icmp .ne 7, 3) := by decide +kernel
theorem dX12_factor_34 : decode cX12_factor 34 = .ok (.iconst 1, 1) := by decide +kernel
theorem dX12_factor_35 : decode cX12_factor 35 = .ok (.goto 4, 3) := by decide +kernel
theorem dX12_factor_38 : decode cX12_factor 38 = .ok (.iconst 0, 1) := by decide +kernel
theorem dX12_factor_39 : decode cX12_factor 39 = .ok (.putfield 63, 3) := by decide +kernel
theorem dX12_factor_42 : decode cX12_factor 42 = .ok (.aload_n 0, 1) := by decide +kernel
theorem dX12_factor_43 : decode cX12_factor 43 = .ok (.dup, 1) := by decide +kernel
theorem dX12_factor_44 : decode cX12_factor 44 = .ok (.getfield 87, 3) := by decide +kernel
theorem dX12_factor_47 : decode cX12_factor 47 = .ok (.iconst 1, 1) := by decide +kernel
theorem dX12_factor_48 : decode cX12_factor 48 = .ok (.iadd, 1) := by decide +kernel
theorem dX12_factor_49 : decode cX12_factor 49 = .ok (.putfield 87, 3) := by decide +kernel
theorem dX12_factor_52 : decode cX12_factor 52 = .ok (.aload_n 0, 1) := by decide +kernel
theorem dX12_factor_53 : decode cX12_factor 53 = .ok (.dup, 1) := by decide +kernel
theorem dX12_factor_54 : decode cX12_factor 54 = .ok (.getfield 57, 3) := by decide +kernel
theorem dX12_factor_57 : decode cX12_factor 57 = .ok (.aload_n 0, 1) := by decide +kernel
theorem dX12_factor_58 : decode cX12_factor 58 = .ok (.getfield 63, 3) := by decide +kernel
theorem dX12_factor_61 : decode cX12_factor 61 = .ok (.ifCond .eq 7, 3) := by decide +kernel
theorem dX12_factor_64 : decode cX12_factor 64 = .ok (.iconst 0, 1) := by decide +kernel
theorem dX12_factor_65 : decode cX12_factor 65 = .ok (.goto 4, 3) := by decide +kernel
theorem dX12_factor_68 : decode cX12_factor 68 = .ok (.iconst 1, 1) := by decide +kernel
theorem dX12_factor_69 : decode cX12_factor 69 = .ok (.iadd, 1) := by decide +kernel
theorem dX12_factor_70 : decode cX12_factor 70 = .ok (.putfield 57, 3) := by decide +kernel
theorem dX12_factor_73 : decode cX12_factor 73 = .ok (.iload_n 1, 1) := by decide +kernel
theorem dX12_factor_74 : decode cX12_factor 74 = .ok (.bipush 33, 2) := by decide +kernel
theorem dX12_factor_76 : decode cX12_factor 76 = .ok (.if_icmp .ne 15, 3) := by decide +kernel
theorem dX12_factor_79 : decode cX12_factor 79 = .ok (.aload_n 0, 1) := by decide +kernel
theorem dX12_factor_80 : decode cX12_factor 80 = .ok (.invokevirtual 90, 3) := by decide +kernel
theorem dX12_factor_83 : decode cX12_factor 83 = .ok (.aload_n 0, 1) := by decide +kernel
theorem dX12_factor_84 : decode cX12_factor 84 = .ok (.iconst (-1), 1) := by decide +kernel
theorem dX12_factor_85 : decode cX12_factor 85 = .ok (.invokevirtual 93, 3) := by decide +kernel
theorem dX12_factor_88 : decode cX12_factor 88 = .ok (.goto 13, 3) := by decide +kernel
theorem dX12_factor_91 : decode cX12_factor 91 = .ok (.aload_n 0, 1) := by decide +kernel
theorem dX12_factor_92 : decode cX12_factor 92 = .ok (.invokevirtual 96, 3) := by decide +kernel
theorem dX12_factor_95 : decode cX12_factor 95 = .ok (.aload_n 0, 1) := by decide +kernel
theorem dX12_factor_96 : decode cX12_factor 96 = .ok (.bipush 41, 2) := by decide +kernel
theorem dX12_factor_98 : decode cX12_factor 98 = .ok (.invokevirtual 80, 3) := by decide +kernel
theorem dX12_factor_101 : decode cX12_factor 101 = .ok (.aload_n 0, 1) := by decide +kernel
theorem dX12_factor_102 : decode cX12_factor 102 = .ok (.dup, 1) := by decide +kernel
theorem dX12_factor_103 : decode cX12_factor 103 = .ok (.getfield 87, 3) := by decide +kernel
theorem dX12_factor_106 : decode cX12_factor 106 = .ok (.iconst 1, 1) := by decide +kernel
theorem dX12_factor_107 : decode cX12_factor 107 = .ok (.isub, 1) := by decide +kernel
theorem dX12_factor_108 : decode cX12_factor 108 = .ok (.putfield 87, 3) := by decide +kernel
theorem dX12_factor_111 : decode cX12_factor 111 = .ok (.return_, 1) := by decide +kernel
theorem dX12_factor_112 : decode cX12_factor 112 = .ok (.aload_n 0, 1) := by decide +kernel
theorem dX12_factor_113 : decode cX12_factor 113 = .ok (.ldc 99, 2) := by decide +kernel
theorem dX12_factor_115 : decode cX12_factor 115 = .ok (.invokevirtual 101, 3) := by decide +kernel
theorem dX12_factor_118 : decode cX12_factor 118 = .ok (.istore_n 2, 1) := by decide +kernel
theorem dX12_factor_119 : decode cX12_factor 119 = .ok (.aload_n 0, 1) := by decide +kernel
theorem dX12_factor_120 : decode cX12_factor 120 = .ok (.iload_n 2, 1) := by decide +kernel
theorem dX12_factor_121 : decode cX12_factor 121 = .ok (.iconst (-1), 1) := by decide +kernel
theorem dX12_factor_122 : decode cX12_factor 122 = .ok (.if_icmp .ne 7, 3) := by decide +kernel
theorem dX12_factor_125 : decode cX12_factor 125 = .ok (.iconst 1, 1) := by decide +kernel
theorem dX12_factor_126 : decode cX12_factor 126 = .ok (.goto 4, 3) := by decide +kernel
theorem dX12_factor_129 : decode cX12_factor 129 = .ok (.iconst 0, 1) := by decide +kernel
theorem dX12_factor_130 : decode cX12_factor 130 = .ok (.putfield 63, 3) := by decide +kernel
theorem dX12_factor_133 : decode cX12_factor 133 = .ok (.aload_n 0, 1) := by decide +kernel
theorem dX12_factor_134 : decode cX12_factor 134 = .ok (.getfield 63, 3) := by decide +kernel
theorem dX12_factor_137 : decode cX12_factor 137 = .ok (.ifCond .eq 7, 3) := by decide +kernel
theorem dX12_factor_140 : decode cX12_factor 140 = .ok (.iconst 0, 1) := by decide +kernel
theorem dX12_factor_141 : decode cX12_factor 141 = .ok (.goto 9, 3) := by decide +kernel
theorem dX12_factor_144 : decode cX12_factor 144 = .ok (.aload_n 0, 1) := by decide +kernel
theorem dX12_factor_145 : decode cX12_factor 145 = .ok (.ldc 105, 2) := by decide +kernel
theorem dX12_factor_147 : decode cX12_factor 147 = .ok (.invokevirtual 101, 3) := by decide +kernel
theorem dX12_factor_150 : decode cX12_factor 150 = .ok (.istore_n 3, 1) := by decide +kernel
theorem dX12_factor_151 : decode cX12_factor 151 = .ok (.aload_n 0, 1) := by decide +kernel
theorem dX12_factor_152 : decode cX12_factor 152 = .ok (.aload_n 0, 1) := by decide +kernel
theorem dX12_factor_153 : decode cX12_factor 153 = .ok (.getfield 63, 3) := by decide +kernel
theorem dX12_factor_156 : decode cX12_factor 156 = .ok (.ifCond .ne 8, 3) := by decide +kernel
theorem dX12_factor_159 : decode cX12_factor 159 = .ok (.iload_n 3, 1) := by decide +kernel
theorem dX12_factor_160 : decode cX12_factor 160 = .ok (.iconst (-1), 1) := by decide +kernel
theorem dX12_factor_161 : decode cX12_factor 161 = .ok (.if_icmp .ne 7, 3) := by decide +kernel
theorem dX12_factor_164 : decode cX12_factor 164 = .ok (.iconst 1, 1) := by decide +kernel
theorem dX12_factor_165 : decode cX12_factor 165 = .ok (.goto 4, 3) := by decide +kernel
theorem dX12_factor_168 : decode cX12_factor 168 = .ok (.iconst 0, 1) := by decide +kernel
theorem dX12_factor_169 : decode cX12_factor 169 = .ok (.putfield 63, 3) := by decide +kernel
theorem dX12_factor_172 : decode cX12_factor 172 = .ok (.aload_n 0, 1) := by decide +kernel
theorem dX12_factor_173 : decode cX12_factor 173 = .ok (.invokevirtual 107, 3) := by decide +kernel
theorem dX12_factor_176 : decode cX12_factor 176 = .ok (.istore 4, 2) := by decide +kernel
theorem dX12_factor_178 : decode cX12_factor 178 = .ok (.aload_n 0, 1) := by decide +kernel
theorem dX12_factor_179 : decode cX12_factor 179 = .ok (.iload_n 2, 1) := by decide +kernel
theorem dX12_factor_180 : decode cX12_factor 180 = .ok (.bipush 8, 2) := by decide +kernel
theorem dX12_factor_182 : decode cX12_factor 182 = .ok (.iload_n 3, 1) := by decide +kernel
theorem dX12_factor_183 : decode cX12_factor 183 = .ok (.imul, 1) := by decide +kernel
theorem dX12_factor_184 : decode cX12_factor 184 = .ok (.iadd, 1) := by decide +kernel
theorem dX12_factor_185 : decode cX12_factor 185 = .ok (.bipush 32, 2) := by decide +kernel
theorem dX12_factor_187 : decode cX12_factor 187 = .ok (.iload 4, 2) := by decide +kernel
theorem dX12_factor_189 : decode cX12_factor 189 = .ok (.imul, 1) := by decide +kernel
theorem dX12_factor_190 : decode cX12_factor 190 = .ok (.iadd, 1) := by decide +kernel
theorem dX12_factor_191 : decode cX12_factor 191 = .ok (.invokevirtual 93, 3) := by decide +kernel
theorem dX12_factor_194 : decode cX12_factor 194 = .ok (.return_, 1) := by decide +kernel
set_option maxRecDepth 20000 in
theorem ggX12_every_X12_factor : GoodIn wsX12_every wsX12_factor := goodIn_r _ [18, 1, 19, 2, 7, 8, 9, 6, 10, 11, 12, 3, 4, 5, 13, 14, 15, 16, 17, 20, 21, 22, 23, 24, 25, 26, 27, 28, 29, 30, 31, 32, 33, 34, 35, 36, 37, 38, 39, 40, 41, 42, 43, 44, 45, 46, 47, 48, 49, 50, 51, 52, 53, 54, 55, 56, 57, 58, 59, 60, 61, 62, 63, 64, 65, 66, 67, 68, 69, 70, 71, 72, 73, 74, 75, 76, 77, 78, 79, 80, 81, 82, 83, 84, 85, 86, 0, 87, 88, 89, 90, 91, 92, 93, 94, 95, 96, 97, 98, 99, 100, 101, 102, 103, 104, 105, 106, 107, 108, 109, 110, 111, 112, 113, 114, 115, 116, 117, 118, 119, 120] (by decide +kernel) (by decide +kernel)
set_option maxRecDepth 20000 in
theorem gX12_every_X12_factor : GoodIn wsX12_every (wsV RX12 90 RX12 yX12_factor wsX12_factor) := goodIn_app (goodIn_of _ (by decide +kernel)) ggX12_every_X12_factor
set_option maxRecDepth 20000 in
theorem ggX12_every_X12_here : GoodIn wsX12_every wsX12_here := goodIn_r _ [10, 2, 11, 12, 91, 92, 93, 94, 95, 96, 97, 98, 99, 100, 101, 102, 103, 104, 105, 106, 107, 108, 109, 110, 111, 112, 113, 114, 115, 116, 117, 118, 119, 120] (by decide +kernel) (by decide +kernel)
set_option maxRecDepth 20000 in
theorem gX12_every_X12_here : GoodIn wsX12_every (wsV RX12 67 RX12 yX12_here wsX12_here) := goodIn_app (goodIn_of _ (by decide +kernel)) ggX12_every_X12_here
set_option maxRecDepth 20000 in
theorem ggX12_every_X12_emits : GoodIn wsX12_every wsX12_emits := goodIn_r _ [16, 1, 12, 17, 91, 92, 93, 94, 95, 96, 97, 98, 99, 100, 101, 102, 103, 104, 105, 106, 107, 108, 109, 110, 111, 112, 113, 114, 115, 116, 117, 118, 119, 120] (by decide +kernel) (by decide +kernel)
set_option maxRecDepth 20000 in
theorem gX12_every_X12_emits : GoodIn wsX12_every (wsV RX12 93 RX12 yX12_emits wsX12_emits) := goodIn_app (goodIn_of _ (by decide +kernel)) ggX12_every_X12_emits
theorem dX12_every_0 : decode cX12_every 0 = .ok (.aload_n 0, 1) := by decide +kernel
theorem dX12_every_1 : decode cX12_every 1 = .ok (.invokevirtual 90, 3) := by decide +kernel
theorem dX12_every_4 : decode cX12_every 4 = .ok (.aload_n 0, 1) := by decide +kernel
theorem dX12_every_5 : decode cX12_every 5 = .ok (.getfield 63, 3) := by decide +kernel
theorem dX12_every_8 : decode cX12_every 8 = .ok (.ifCond .ne 35, 3) := by decide +kernel
theorem dX12_every_11 : decode cX12_every 11 = .ok (.aload_n 0, 1) := by decide +kernel
theorem dX12_every_12 : decode cX12_every 12 = .ok (.invokevirtual 67, 3) := by decide +kernel
theorem dX12_every_15 : decode cX12_every 15 = .ok (.bipush 38, 2) := by decide +kernel
theorem dX12_every_17 : decode cX12_every 17 = .ok (.if_icmp .ne 26, 3) := by decide +kernel
theorem dX12_every_20 : decode cX12_every 20 = .ok (.aload_n 0, 1) := by decide +kernel
theorem dX12_every_21 : decode cX12_every 21 = .ok (.dup, 1) := by decide +kernel
theorem dX12_every_22 : decode cX12_every 22 = .ok (.getfield 57, 3) := by decide +kernel
theorem dX12_every_25 : decode cX12_every 25 = .ok (.iconst 1, 1) := by decide +kernel
theorem dX12_every_26 : decode cX12_every 26 = .ok (.iadd, 1) := by decide +kernel
theorem dX12_every_27 : decode cX12_every 27 = .ok (.putfield 57, 3) := by decide +kernel
theorem dX12_every_30 : decode cX12_every 30 = .ok (.aload_n 0, 1) := by decide +kernel
theorem dX12_every_31 : decode cX12_every 31 = .ok (.invokevirtual 90, 3) := by decide +kernel
theorem dX12_every_34 : decode cX12_every 34 = .ok (.aload_n 0, 1) := by decide +kernel
theorem dX12_every_35 : decode cX12_every 35 = .ok (.bipush (-2), 2) := by decide +kernel
theorem dX12_every_37 : decode cX12_every 37 = .ok (.invokevirtual 93, 3) := by decide +kernel
theorem dX12_every_40 : decode cX12_every 40 = .ok (.goto (-36), 3) := by decide +kernel
theorem dX12_every_43 : decode cX12_every 43 = .ok (.return_, 1) := by decide +kernel
set_option maxRecDepth 20000 in
theorem ggX12_some_X12_every : GoodIn wsX12_some wsX12_every := goodIn_r _ [18, 1, 2, 19, 20, 21, 6, 7, 8, 9, 10, 11, 12, 13, 14, 15, 16, 17, 22, 23, 24, 25, 26, 27, 28, 29, 30, 31, 32, 33, 34, 35, 36, 37, 38, 39, 40, 41, 42, 43, 44, 45, 46, 47, 48, 49, 50, 51, 52, 53, 54, 55, 56, 57, 58, 59, 60, 61, 62, 63, 64, 65, 66, 67, 68, 69, 70, 71, 72, 73, 74, 75, 76, 77, 78, 79, 80, 81, 82, 83, 84, 85, 86, 87, 88, 89, 90, 0, 3, 4, 5, 91, 92, 93, 94, 95, 96, 97, 98, 99, 100, 101, 102, 103, 104, 105, 106, 107, 108, 109, 110, 111, 112, 113, 114, 115, 116, 117, 118, 119, 120] (by decide +kernel) (by decide +kernel)
set_option maxRecDepth 20000 in
theorem gX12_some_X12_every : GoodIn wsX12_some (wsV RX12 110 RX12 yX12_every wsX12_every) := goodIn_app (goodIn_of _ (by decide +kernel)) ggX12_some_X12_every
set_option maxRecDepth 20000 in
theorem ggX12_some_X12_here : GoodIn wsX12_some wsX12_here := goodIn_r _ [10, 2, 11, 12, 91, 92, 93, 94, 95, 96, 97, 98, 99, 100, 101, 102, 103, 104, 105, 106, 107, 108, 109, 110, 111, 112, 113, 114, 115, 116, 117, 118, 119, 120] (by decide +kernel) (by decide +kernel)
set_option maxRecDepth 20000 in
theorem gX12_some_X12_here : GoodIn wsX12_some (wsV RX12 67 RX12 yX12_here wsX12_here) := goodIn_app (goodIn_of _ (by decide +kernel)) ggX12_some_X12_here
set_option maxRecDepth 20000 in
theorem ggX12_some_X12_emits : GoodIn wsX12_some wsX12_emits := goodIn_r _ [16, 1, 12, 17, 91, 92, 93, 94, 95, 96, 97, 98, 99, 100, 101, 102, 103, 104, 105, 106, 107, 108, 109, 110, 111, 112, 113, 114, 115, 116, 117, 118, 119, 120] (by decide +kernel) (by decide +kernel)
set_option maxRecDepth 20000 in
theorem gX12_some_X12_emits : GoodIn wsX12_some (wsV RX12 93 RX12 yX12_emits wsX12_emits) := goodIn_app (goodIn_of _ (by decide +kernel)) ggX12_some_X12_emits
theorem dX12_some_0 : decode cX12_some 0 = .ok (.aload_n 0, 1) := by decide +kernel
theorem dX12_some_1 : decode cX12_some 1 = .ok (.invokevirtual 110, 3) := by decide +kernel
theorem dX12_some_4 : decode cX12_some 4 = .ok (.aload_n 0, 1) := by decide +kernel
theorem dX12_some_5 : decode cX12_some 5 = .ok (.getfield 63, 3) := by decide +kernel
theorem dX12_some_8 : decode cX12_some 8 = .ok (.ifCond .ne 35, 3) := by decide +kernel
theorem dX12_some_11 : decode cX12_some 11 = .ok (.aload_n 0, 1) := by decide +kernel
theorem dX12_some_12 : decode cX12_some 12 = .ok (.invokevirtual 67, 3) := by decide +kernel
theorem dX12_some_15 : decode cX12_some 15 = .ok (.bipush 124, 2) := by decide +kernel
theorem dX12_some_17 : decode cX12_some 17 = .ok (.if_icmp .ne 26, 3) := by decide +kernel
theorem dX12_some_20 : decode cX12_some 20 = .ok (.aload_n 0, 1) := by decide +kernel
theorem dX12_some_21 : decode cX12_some 21 = .ok (.dup, 1) := by decide +kernel
theorem dX12_some_22 : decode cX12_some 22 = .ok (.getfield 57, 3) := by decide +kernel
theorem dX12_some_25 : decode cX12_some 25 = .ok (.iconst 1, 1) := by decide +kernel
theorem dX12_some_26 : decode cX12_some 26 = .ok (.iadd, 1) := by decide +kernel
theorem dX12_some_27 : decode cX12_some 27 = .ok (.putfield 57, 3) := by decide +kernel
theorem dX12_some_30 : decode cX12_some 30 = .ok (.aload_n 0, 1) := by decide +kernel
theorem dX12_some_31 : decode cX12_some 31 = .ok (.invokevirtual 110, 3) := by decide +kernel
theorem dX12_some_34 : decode cX12_some 34 = .ok (.aload_n 0, 1) := by decide +kernel
theorem dX12_some_35 : decode cX12_some 35 = .ok (.bipush (-3), 2) := by decide +kernel
theorem dX12_some_37 : decode cX12_some 37 = .ok (.invokevirtual 93, 3) := by decide +kernel
theorem dX12_some_40 : decode cX12_some 40 = .ok (.goto (-36), 3) := by decide +kernel
theorem dX12_some_43 : decode cX12_some 43 = .ok (.return_, 1) := by decide +kernel
set_option maxRecDepth 20000 in
theorem ggX12_much_X12_spells : GoodIn wsX12_much wsX12_spells := goodIn_r _ [5, 6, 7, 8, 9, 10, 11, 12, 13, 14, 15, 16, 17, 18, 19, 20, 21, 22, 23, 24, 25, 26, 27, 28, 29, 30, 31, 32, 33, 34, 35, 36, 37, 38, 39, 40, 41, 42, 43, 44, 45, 46, 47, 48, 49, 50, 51, 52, 53, 54, 55, 56, 57, 4, 58, 59, 60, 61, 62, 63, 64, 65, 66, 96, 97, 98, 99, 100, 101, 102, 103, 104, 105, 106, 107, 108, 109, 110, 111, 112, 113, 114, 115, 116, 117, 118, 119, 120, 121, 122, 123, 124, 125] (by decide +kernel) (by decide +kernel)
set_option maxRecDepth 20000 in
theorem gX12_much_X12_spells : GoodIn wsX12_much (wsV RX12 113 RX12 yX12_spells wsX12_spells) := goodIn_app (goodIn_of _ (by decide +kernel)) ggX12_much_X12_spells
set_option maxRecDepth 20000 in
theorem ggX12_much_X12_figures : GoodIn wsX12_much wsX12_figures := goodIn_r _ [70, 59, 60, 61, 62, 63, 4, 64, 65, 66, 71, 72, 73, 96, 97, 98, 99, 100, 101, 102, 103, 104, 105, 106, 107, 108, 109, 110, 111, 112, 113, 114, 115, 116, 117, 118, 119, 120, 121, 122, 123, 124, 125] (by decide +kernel) (by decide +kernel)
set_option maxRecDepth 20000 in
theorem gX12_much_X12_figures : GoodIn wsX12_much (wsV RX12 107 RX12 yX12_figures wsX12_figures) := goodIn_app (goodIn_of _ (by decide +kernel)) ggX12_much_X12_figures
set_option maxRecDepth 20000 in
theorem ggX12_much_X12_must : GoodIn wsX12_much wsX12_must := goodIn_r _ [58, 59, 60, 61, 62, 63, 4, 64, 65, 66, 96, 97, 98, 99, 100, 101, 102, 103, 104, 105, 106, 107, 108, 109, 110, 111, 112, 113, 114, 115, 116, 117, 118, 119, 120, 121, 122, 123, 124, 125] (by decide +kernel) (by decide +kernel)
set_option maxRecDepth 20000 in
theorem gX12_much_X12_must : GoodIn wsX12_much (wsV RX12 80 RX12 yX12_must wsX12_must) := goodIn_app (goodIn_of _ (by decide +kernel)) ggX12_much_X12_must
set_option maxRecDepth 20000 in
theorem ggX12_much_X12_some : GoodIn wsX12_much wsX12_some := goodIn_r _ [77, 59, 60, 78, 79, 80, 4, 61, 62, 63, 64, 65, 66, 81, 82, 83, 84, 85, 86, 87, 88, 89, 90, 91, 74, 75, 76, 55, 56, 57, 58, 92, 93, 94, 95, 6, 7, 8, 9, 10, 11, 12, 13, 14, 15, 16, 17, 18, 19, 20, 21, 22, 23, 24, 25, 26, 27, 28, 29, 30, 31, 32, 33, 34, 35, 36, 37, 38, 39, 40, 41, 42, 43, 44, 45, 46, 47, 48, 49, 50, 51, 52, 53, 54, 67, 68, 69, 70, 71, 72, 73, 96, 97, 98, 99, 100, 101, 102, 103, 104, 105, 106, 107, 108, 109, 110, 111, 112, 113, 114, 115, 116, 117, 118, 119, 120, 121, 122, 123, 124, 125] (by decide +kernel) (by decide +kernel)
set_option maxRecDepth 20000 in
theorem gX12_much_X12_some : GoodIn wsX12_much (wsV RX12 96 RX12 yX12_some wsX12_some) := goodIn_app (goodIn_of _ (by decide +kernel)) ggX12_much_X12_some
set_option maxRecDepth 20000 in
theorem ggX12_much_X12_emits : GoodIn wsX12_much wsX12_emits := goodIn_r _ [84, 59, 66, 85, 96, 97, 98, 99, 100, 101, 102, 103, 104, 105, 106, 107, 108, 109, 110, 111, 112, 113, 114, 115, 116, 117, 118, 119, 120, 121, 122, 123, 124, 125] (by decide +kernel) (by decide +kernel)
set_option maxRecDepth 20000 in
theorem gX12_much_X12_emits : GoodIn wsX12_much (wsV RX12 93 RX12 yX12_emits wsX12_emits) := goodIn_app (goodIn_of _ (by decide +kernel)) ggX12_much_X12_emits
theorem dX12_much_0 : decode cX12_much 0 = .ok (.aload_n 0, 1) := by decide +kernel
theorem dX12_much_1 : decode cX12_much 1 = .ok (.aload_n 2, 1) := by decide +kernel
theorem dX12_much_2 : decode cX12_much 2 = .ok (.invokevirtual 113, 3) := by decide +kernel
theorem dX12_much_5 : decode cX12_much 5 = .ok (.aload_n 0, 1) := by decide +kernel
theorem dX12_much_6 : decode cX12_much 6 = .ok (.invokevirtual 107, 3) := by decide +kernel
theorem dX12_much_9 : decode cX12_much 9 = .ok (.istore_n 3, 1) := by decide +kernel
theorem dX12_much_10 : decode cX12_much 10 = .ok (.aload_n 0, 1) := by decide +kernel
theorem dX12_much_11 : decode cX12_much 11 = .ok (.bipush 32, 2) := by decide +kernel
theorem dX12_much_13 : decode cX12_much 13 = .ok (.invokevirtual 80, 3) := by decide +kernel
theorem dX12_much_16 : decode cX12_much 16 = .ok (.aload_n 0, 1) := by decide +kernel
theorem dX12_much_17 : decode cX12_much 17 = .ok (.invokevirtual 96, 3) := by decide +kernel
theorem dX12_much_20 : decode cX12_much 20 = .ok (.aload_n 0, 1) := by decide +kernel
theorem dX12_much_21 : decode cX12_much 21 = .ok (.iload_n 1, 1) := by decide +kernel
theorem dX12_much_22 : decode cX12_much 22 = .ok (.iload_n 3, 1) := by decide +kernel
theorem dX12_much_23 : decode cX12_much 23 = .ok (.isub, 1) := by decide +kernel
theorem dX12_much_24 : decode cX12_much 24 = .ok (.invokevirtual 93, 3) := by decide +kernel
theorem dX12_much_27 : decode cX12_much 27 = .ok (.return_, 1) := by decide +kernel
set_option maxRecDepth 20000 in
theorem ggX12_tellsHere_X12_spells : GoodIn wsX12_tellsHere wsX12_spells := goodIn_r _ [8, 9, 10, 11, 12, 13, 14, 15, 16, 17, 18, 19, 20, 21, 22, 23, 24, 25, 26, 27, 28, 29, 30, 31, 32, 33, 34, 35, 36, 37, 38, 39, 40, 41, 42, 43, 44, 45, 46, 47, 48, 49, 50, 51, 52, 53, 54, 55, 56, 57, 58, 59, 60, 7, 61, 1, 62, 63, 64, 65, 66, 67, 2, 75, 76, 77, 78, 79, 80, 81, 82, 83, 84, 85, 86, 87, 88, 89, 90, 91, 92, 93, 94, 95, 96, 97, 98, 99, 100, 101, 102, 103, 104] (by decide +kernel) (by decide +kernel)
set_option maxRecDepth 20000 in
theorem gX12_tellsHere_X12_spells : GoodIn wsX12_tellsHere (wsV RX12 113 RX12 yX12_spells wsX12_spells) := goodIn_app (goodIn_of _ (by decide +kernel)) ggX12_tellsHere_X12_spells
set_option maxRecDepth 20000 in
theorem ggX12_tellsHere_X12_figures : GoodIn wsX12_tellsHere wsX12_figures := goodIn_r _ [71, 1, 62, 63, 64, 65, 7, 66, 67, 2, 72, 73, 74, 75, 76, 77, 78, 79, 80, 81, 82, 83, 84, 85, 86, 87, 88, 89, 90, 91, 92, 93, 94, 95, 96, 97, 98, 99, 100, 101, 102, 103, 104] (by decide +kernel) (by decide +kernel)
set_option maxRecDepth 20000 in
theorem gX12_tellsHere_X12_figures : GoodIn wsX12_tellsHere (wsV RX12 107 RX12 yX12_figures wsX12_figures) := goodIn_app (goodIn_of _ (by decide +kernel)) ggX12_tellsHere_X12_figures
theorem dX12_tellsHere_0 : decode cX12_tellsHere 0 = .ok (.aload_n 0, 1) := by decide +kernel
theorem dX12_tellsHere_1 : decode cX12_tellsHere 1 = .ok (.aload_n 2, 1) := by decide +kernel
theorem dX12_tellsHere_2 : decode cX12_tellsHere 2 = .ok (.invokevirtual 113, 3) := by decide +kernel
theorem dX12_tellsHere_5 : decode cX12_tellsHere 5 = .ok (.aload_n 0, 1) := by decide +kernel
theorem dX12_tellsHere_6 : decode cX12_tellsHere 6 = .ok (.invokevirtual 107, 3) := by decide +kernel
theorem dX12_tellsHere_9 : decode cX12_tellsHere 9 = .ok (.istore_n 3, 1) := by decide +kernel
theorem dX12_tellsHere_10 : decode cX12_tellsHere 10 = .ok (.aload_n 0, 1) := by decide +kernel
theorem dX12_tellsHere_11 : decode cX12_tellsHere 11 = .ok (.getfield 63, 3) := by decide +kernel
theorem dX12_tellsHere_14 : decode cX12_tellsHere 14 = .ok (.ifCond .ne 15, 3) := by decide +kernel
theorem dX12_tellsHere_17 : decode cX12_tellsHere 17 = .ok (.aload_n 0, 1) := by decide +kernel
theorem dX12_tellsHere_18 : decode cX12_tellsHere 18 = .ok (.getfield 9, 3) := by decide +kernel
theorem dX12_tellsHere_21 : decode cX12_tellsHere 21 = .ok (.iload_n 1, 1) := by decide +kernel
theorem dX12_tellsHere_22 : decode cX12_tellsHere 22 = .ok (.aload_n 0, 1) := by decide +kernel
theorem dX12_tellsHere_23 : decode cX12_tellsHere 23 = .ok (.getfield 84, 3) := by decide +kernel
theorem dX12_tellsHere_26 : decode cX12_tellsHere 26 = .ok (.iadd, 1) := by decide +kernel
theorem dX12_tellsHere_27 : decode cX12_tellsHere 27 = .ok (.iload_n 3, 1) := by decide +kernel
theorem dX12_tellsHere_28 : decode cX12_tellsHere 28 = .ok (.iastore, 1) := by decide +kernel
theorem dX12_tellsHere_29 : decode cX12_tellsHere 29 = .ok (.return_, 1) := by decide +kernel
set_option maxRecDepth 20000 in
theorem ggX12_clauseOfS_X12_must : GoodIn wsX12_clauseOfS wsX12_must := goodIn_r _ [5, 6, 7, 8, 9, 10, 4, 11, 12, 13, 104, 105, 106, 107, 108, 109, 110, 111, 112, 113, 114, 115, 116, 117, 118, 119, 120, 121, 122, 123, 124, 125, 126, 127, 128, 129, 130, 131, 132, 133] (by decide +kernel) (by decide +kernel)
set_option maxRecDepth 20000 in
theorem gX12_clauseOfS_X12_must : GoodIn wsX12_clauseOfS (wsV RX12 80 RX12 yX12_must wsX12_must) := goodIn_app (goodIn_of _ (by decide +kernel)) ggX12_clauseOfS_X12_must
set_option maxRecDepth 20000 in
theorem ggX12_clauseOfS_X12_here : GoodIn wsX12_clauseOfS wsX12_here := goodIn_r _ [11, 7, 12, 13, 104, 105, 106, 107, 108, 109, 110, 111, 112, 113, 114, 115, 116, 117, 118, 119, 120, 121, 122, 123, 124, 125, 126, 127, 128, 129, 130, 131, 132, 133] (by decide +kernel) (by decide +kernel)
set_option maxRecDepth 20000 in
theorem gX12_clauseOfS_X12_here : GoodIn wsX12_clauseOfS (wsV RX12 67 RX12 yX12_here wsX12_here) := goodIn_app (goodIn_of _ (by decide +kernel)) ggX12_clauseOfS_X12_here
set_option maxRecDepth 20000 in
theorem ggX12_clauseOfS_X12_much : GoodIn wsX12_clauseOfS wsX12_much := goodIn_r _ [17, 18, 19, 20, 4, 21, 22, 23, 24, 25, 26, 27, 28, 29, 30, 31, 32, 33, 34, 35, 36, 37, 38, 39, 40, 41, 42, 43, 44, 45, 46, 47, 48, 49, 50, 51, 52, 53, 54, 55, 56, 57, 58, 59, 60, 61, 62, 63, 64, 65, 66, 67, 68, 69, 70, 1, 2, 3, 5, 6, 7, 8, 9, 10, 11, 12, 13, 71, 72, 73, 74, 75, 76, 77, 78, 79, 80, 81, 82, 83, 84, 85, 86, 87, 88, 89, 90, 91, 92, 93, 94, 95, 96, 97, 98, 99, 104, 105, 106, 107, 108, 109, 110, 111, 112, 113, 114, 115, 116, 117, 118, 119, 120, 121, 122, 123, 124, 125, 126, 127, 128, 129, 130, 131, 132, 133] (by decide +kernel) (by decide +kernel)
set_option maxRecDepth 20000 in
theorem gX12_clauseOfS_X12_much : GoodIn wsX12_clauseOfS (wsV RX12 119 RX12 yX12_much wsX12_much) := goodIn_app (goodIn_of _ (by decide +kernel)) ggX12_clauseOfS_X12_much
set_option maxRecDepth 20000 in
theorem ggX12_clauseOfS_X12_tellsHere : GoodIn wsX12_clauseOfS wsX12_tellsHere := goodIn_r _ [103, 6, 13, 89, 18, 19, 20, 4, 21, 22, 23, 24, 25, 26, 27, 28, 29, 30, 31, 32, 33, 34, 35, 36, 37, 38, 39, 40, 41, 42, 43, 44, 45, 46, 47, 48, 49, 50, 51, 52, 53, 54, 55, 56, 57, 58, 59, 60, 61, 62, 63, 64, 65, 66, 67, 68, 69, 70, 1, 2, 3, 5, 7, 8, 9, 10, 11, 12, 71, 72, 73, 74, 75, 76, 77, 104, 105, 106, 107, 108, 109, 110, 111, 112, 113, 114, 115, 116, 117, 118, 119, 120, 121, 122, 123, 124, 125, 126, 127, 128, 129, 130, 131, 132, 133] (by decide +kernel) (by decide +kernel)
set_option maxRecDepth 20000 in
theorem gX12_clauseOfS_X12_tellsHere : GoodIn wsX12_clauseOfS (wsV RX12 125 RX12 yX12_tellsHere wsX12_tellsHere) := goodIn_app (goodIn_of _ (by decide +kernel)) ggX12_clauseOfS_X12_tellsHere
theorem dX12_clauseOfS_0 : decode cX12_clauseOfS 0 = .ok (.aload_n 0, 1) := by decide +kernel
theorem dX12_clauseOfS_1 : decode cX12_clauseOfS 1 = .ok (.bipush 115, 2) := by decide +kernel
theorem dX12_clauseOfS_3 : decode cX12_clauseOfS 3 = .ok (.invokevirtual 80, 3) := by decide +kernel
theorem dX12_clauseOfS_6 : decode cX12_clauseOfS 6 = .ok (.aload_n 0, 1) := by decide +kernel
theorem dX12_clauseOfS_7 : decode cX12_clauseOfS 7 = .ok (.invokevirtual 67, 3) := by decide +kernel
theorem dX12_clauseOfS_10 : decode cX12_clauseOfS 10 = .ok (.bipush 112, 2) := by decide +kernel
theorem dX12_clauseOfS_12 : decode cX12_clauseOfS 12 = .ok (.if_icmp .ne 15, 3) := by decide +kernel
theorem dX12_clauseOfS_15 : decode cX12_clauseOfS 15 = .ok (.aload_n 0, 1) := by decide +kernel
theorem dX12_clauseOfS_16 : decode cX12_clauseOfS 16 = .ok (.sipush (-400), 3) := by decide +kernel
theorem dX12_clauseOfS_19 : decode cX12_clauseOfS 19 = .ok (.ldc 117, 2) := by decide +kernel
theorem dX12_clauseOfS_21 : decode cX12_clauseOfS 21 = .ok (.invokevirtual 119, 3) := by decide +kernel
theorem dX12_clauseOfS_24 : decode cX12_clauseOfS 24 = .ok (.goto 12, 3) := by decide +kernel
theorem dX12_clauseOfS_27 : decode cX12_clauseOfS 27 = .ok (.aload_n 0, 1) := by decide +kernel
theorem dX12_clauseOfS_28 : decode cX12_clauseOfS 28 = .ok (.sipush 173, 3) := by decide +kernel
theorem dX12_clauseOfS_31 : decode cX12_clauseOfS 31 = .ok (.ldc 123, 2) := by decide +kernel
theorem dX12_clauseOfS_33 : decode cX12_clauseOfS 33 = .ok (.invokevirtual 125, 3) := by decide +kernel
theorem dX12_clauseOfS_36 : decode cX12_clauseOfS 36 = .ok (.return_, 1) := by decide +kernel
set_option maxRecDepth 20000 in
theorem ggX12_clauseHere_X12_here : GoodIn wsX12_clauseHere wsX12_here := goodIn_r _ [6, 7, 8, 9, 108, 109, 110, 111, 112, 113, 114, 115, 116, 117, 118, 119, 120, 121, 122, 123, 124, 125, 126, 127, 128, 129, 130, 131, 132, 133, 134, 135, 136, 137] (by decide +kernel) (by decide +kernel)
set_option maxRecDepth 20000 in
theorem gX12_clauseHere_X12_here : GoodIn wsX12_clauseHere (wsV RX12 67 RX12 yX12_here wsX12_here) := goodIn_app (goodIn_of _ (by decide +kernel)) ggX12_clauseHere_X12_here
set_option maxRecDepth 20000 in
theorem ggX12_clauseHere_X12_much : GoodIn wsX12_clauseHere wsX12_much := goodIn_r _ [13, 14, 15, 16, 5, 17, 18, 19, 20, 21, 22, 23, 24, 25, 26, 27, 28, 29, 30, 31, 32, 33, 34, 35, 36, 37, 38, 39, 40, 41, 42, 43, 44, 45, 46, 47, 48, 49, 50, 51, 52, 53, 54, 55, 56, 57, 58, 59, 60, 61, 62, 63, 64, 65, 66, 67, 68, 69, 70, 1, 7, 2, 3, 4, 6, 8, 9, 71, 72, 73, 74, 75, 76, 77, 78, 79, 80, 81, 82, 83, 84, 85, 86, 87, 88, 89, 90, 91, 92, 93, 94, 95, 96, 97, 98, 99, 108, 109, 110, 111, 112, 113, 114, 115, 116, 117, 118, 119, 120, 121, 122, 123, 124, 125, 126, 127, 128, 129, 130, 131, 132, 133, 134, 135, 136, 137] (by decide +kernel) (by decide +kernel)
set_option maxRecDepth 20000 in
theorem gX12_clauseHere_X12_much : GoodIn wsX12_clauseHere (wsV RX12 119 RX12 yX12_much wsX12_much) := goodIn_app (goodIn_of _ (by decide +kernel)) ggX12_clauseHere_X12_much
set_option maxRecDepth 20000 in
theorem ggX12_clauseHere_X12_clauseOfS : GoodIn wsX12_clauseHere wsX12_clauseOfS := goodIn_r _ [103, 67, 68, 69, 5, 70, 1, 7, 2, 3, 4, 6, 8, 9, 10, 11, 12, 13, 14, 15, 16, 17, 18, 19, 20, 21, 22, 23, 24, 25, 26, 27, 28, 29, 30, 31, 32, 33, 34, 35, 36, 37, 38, 39, 40, 41, 42, 43, 44, 45, 46, 47, 48, 49, 50, 51, 52, 53, 54, 55, 56, 57, 58, 59, 60, 61, 62, 63, 64, 65, 66, 71, 72, 73, 74, 75, 76, 77, 78, 79, 80, 81, 82, 83, 84, 85, 86, 87, 88, 89, 90, 91, 92, 93, 94, 95, 96, 97, 98, 99, 104, 105, 106, 107, 108, 109, 110, 111, 112, 113, 114, 115, 116, 117, 118, 119, 120, 121, 122, 123, 124, 125, 126, 127, 128, 129, 130, 131, 132, 133, 134, 135, 136, 137] (by decide +kernel) (by decide +kernel)
set_option maxRecDepth 20000 in
theorem gX12_clauseHere_X12_clauseOfS : GoodIn wsX12_clauseHere (wsV RX12 132 RX12 yX12_clauseOfS wsX12_clauseOfS) := goodIn_app (goodIn_of _ (by decide +kernel)) ggX12_clauseHere_X12_clauseOfS
set_option maxRecDepth 20000 in
theorem ggX12_clauseHere_X12_tellsHere : GoodIn wsX12_clauseHere wsX12_tellsHere := goodIn_r _ [107, 1, 9, 89, 14, 15, 16, 5, 17, 18, 19, 20, 21, 22, 23, 24, 25, 26, 27, 28, 29, 30, 31, 32, 33, 34, 35, 36, 37, 38, 39, 40, 41, 42, 43, 44, 45, 46, 47, 48, 49, 50, 51, 52, 53, 54, 55, 56, 57, 58, 59, 60, 61, 62, 63, 64, 65, 66, 67, 68, 69, 70, 7, 2, 3, 4, 6, 8, 71, 72, 73, 74, 75, 76, 77, 108, 109, 110, 111, 112, 113, 114, 115, 116, 117, 118, 119, 120, 121, 122, 123, 124, 125, 126, 127, 128, 129, 130, 131, 132, 133, 134, 135, 136, 137] (by decide +kernel) (by decide +kernel)
set_option maxRecDepth 20000 in
theorem gX12_clauseHere_X12_tellsHere : GoodIn wsX12_clauseHere (wsV RX12 125 RX12 yX12_tellsHere wsX12_tellsHere) := goodIn_app (goodIn_of _ (by decide +kernel)) ggX12_clauseHere_X12_tellsHere
theorem dX12_clauseHere_0 : decode cX12_clauseHere 0 = .ok (.aload_n 0, 1) := by decide +kernel
theorem dX12_clauseHere_1 : decode cX12_clauseHere 1 = .ok (.invokevirtual 67, 3) := by decide +kernel
theorem dX12_clauseHere_4 : decode cX12_clauseHere 4 = .ok (.lookupswitch 86 #[(101, 55), (112, 44), (115, 67), (116, 74)], 44) := by decide +kernel
theorem dX12_clauseHere_48 : decode cX12_clauseHere 48 = .ok (.aload_n 0, 1) := by decide +kernel
theorem dX12_clauseHere_49 : decode cX12_clauseHere 49 = .ok (.bipush (-10), 2) := by decide +kernel
theorem dX12_clauseHere_51 : decode cX12_clauseHere 51 = .ok (.ldc 128, 2) := by decide +kernel
theorem dX12_clauseHere_53 : decode cX12_clauseHere 53 = .ok (.invokevirtual 119, 3) := by decide +kernel
theorem dX12_clauseHere_56 : decode cX12_clauseHere 56 = .ok (.goto 39, 3) := by decide +kernel
theorem dX12_clauseHere_59 : decode cX12_clauseHere 59 = .ok (.aload_n 0, 1) := by decide +kernel
theorem dX12_clauseHere_60 : decode cX12_clauseHere 60 = .ok (.sipush (-200), 3) := by decide +kernel
theorem dX12_clauseHere_63 : decode cX12_clauseHere 63 = .ok (.ldc 130, 2) := by decide +kernel
theorem dX12_clauseHere_65 : decode cX12_clauseHere 65 = .ok (.invokevirtual 119, 3) := by decide +kernel
theorem dX12_clauseHere_68 : decode cX12_clauseHere 68 = .ok (.goto 27, 3) := by decide +kernel
theorem dX12_clauseHere_71 : decode cX12_clauseHere 71 = .ok (.aload_n 0, 1) := by decide +kernel
theorem dX12_clauseHere_72 : decode cX12_clauseHere 72 = .ok (.invokevirtual 132, 3) := by decide +kernel
theorem dX12_clauseHere_75 : decode cX12_clauseHere 75 = .ok (.goto 20, 3) := by decide +kernel
theorem dX12_clauseHere_78 : decode cX12_clauseHere 78 = .ok (.aload_n 0, 1) := by decide +kernel
theorem dX12_clauseHere_79 : decode cX12_clauseHere 79 = .ok (.sipush 168, 3) := by decide +kernel
theorem dX12_clauseHere_82 : decode cX12_clauseHere 82 = .ok (.ldc 135, 2) := by decide +kernel
theorem dX12_clauseHere_84 : decode cX12_clauseHere 84 = .ok (.invokevirtual 125, 3) := by decide +kernel
theorem dX12_clauseHere_87 : decode cX12_clauseHere 87 = .ok (.goto 8, 3) := by decide +kernel
theorem dX12_clauseHere_90 : decode cX12_clauseHere 90 = .ok (.aload_n 0, 1) := by decide +kernel
theorem dX12_clauseHere_91 : decode cX12_clauseHere 91 = .ok (.iconst 1, 1) := by decide +kernel
theorem dX12_clauseHere_92 : decode cX12_clauseHere 92 = .ok (.putfield 63, 3) := by decide +kernel
theorem dX12_clauseHere_95 : decode cX12_clauseHere 95 = .ok (.return_, 1) := by decide +kernel
set_option maxRecDepth 20000 in
theorem ggX12_site_X12_clauseHere : GoodIn wsX12_site wsX12_clauseHere := goodIn_r _ [12, 5, 13, 14, 15, 11, 16, 4, 3, 1, 17, 18, 19, 20, 21, 22, 23, 24, 25, 26, 27, 28, 29, 30, 31, 32, 33, 34, 35, 36, 37, 38, 39, 40, 41, 42, 43, 44, 45, 46, 47, 48, 49, 50, 51, 52, 53, 54, 55, 56, 57, 58, 59, 60, 61, 62, 63, 64, 65, 66, 67, 68, 69, 70, 71, 72, 73, 74, 75, 76, 77, 78, 79, 80, 81, 82, 83, 84, 85, 86, 87, 88, 89, 90, 91, 92, 93, 94, 95, 2, 96, 97, 98, 99, 100, 6, 101, 102, 103, 104, 105, 106, 107, 108, 109, 110, 111, 112, 113, 114, 115, 116, 117, 118, 119, 120, 121, 122, 123, 124, 125, 126, 127, 128, 129, 130, 131, 132, 133, 134, 135, 136, 137, 138, 139, 140, 141, 142] (by decide +kernel) (by decide +kernel)
set_option maxRecDepth 20000 in
theorem gX12_site_X12_clauseHere : GoodIn wsX12_site (wsV RX12 137 RX12 yX12_clauseHere wsX12_clauseHere) := goodIn_app (goodIn_of _ (by decide +kernel)) ggX12_site_X12_clauseHere
set_option maxRecDepth 20000 in
theorem ggX12_site_X12_here : GoodIn wsX12_site wsX12_here := goodIn_r _ [16, 4, 3, 1, 113, 114, 115, 116, 117, 118, 119, 120, 121, 122, 123, 124, 125, 126, 127, 128, 129, 130, 131, 132, 133, 134, 135, 136, 137, 138, 139, 140, 141, 142] (by decide +kernel) (by decide +kernel)
set_option maxRecDepth 20000 in
theorem gX12_site_X12_here : GoodIn wsX12_site (wsV RX12 67 RX12 yX12_here wsX12_here) := goodIn_app (goodIn_of _ (by decide +kernel)) ggX12_site_X12_here
theorem dX12_site_0 : decode cX12_site 0 = .ok (.aload_n 0, 1) := by decide +kernel
theorem dX12_site_1 : decode cX12_site 1 = .ok (.getfield 9, 3) := by decide +kernel
theorem dX12_site_4 : decode cX12_site 4 = .ok (.bipush 39, 2) := by decide +kernel
theorem dX12_site_6 : decode cX12_site 6 = .ok (.iaload, 1) := by decide +kernel
theorem dX12_site_7 : decode cX12_site 7 = .ok (.iconst 5, 1) := by decide +kernel
theorem dX12_site_8 : decode cX12_site 8 = .ok (.if_icmp .ne 6, 3) := by decide +kernel
theorem dX12_site_11 : decode cX12_site 11 = .ok (.bipush (-4), 2) := by decide +kernel
theorem dX12_site_13 : decode cX12_site 13 = .ok (.ireturn, 1) := by decide +kernel
theorem dX12_site_14 : decode cX12_site 14 = .ok (.aload_n 0, 1) := by decide +kernel
theorem dX12_site_15 : decode cX12_site 15 = .ok (.aload_n 0, 1) := by decide +kernel
theorem dX12_site_16 : decode cX12_site 16 = .ok (.getfield 9, 3) := by decide +kernel
theorem dX12_site_19 : decode cX12_site 19 = .ok (.bipush 39, 2) := by decide +kernel
theorem dX12_site_21 : decode cX12_site 21 = .ok (.iaload, 1) := by decide +kernel
theorem dX12_site_22 : decode cX12_site 22 = .ok (.putfield 84, 3) := by decide +kernel
theorem dX12_site_25 : decode cX12_site 25 = .ok (.aload_n 0, 1) := by decide +kernel
theorem dX12_site_26 : decode cX12_site 26 = .ok (.aload_n 0, 1) := by decide +kernel
theorem dX12_site_27 : decode cX12_site 27 = .ok (.getfield 9, 3) := by decide +kernel
theorem dX12_site_30 : decode cX12_site 30 = .ok (.bipush 41, 2) := by decide +kernel
theorem dX12_site_32 : decode cX12_site 32 = .ok (.iaload, 1) := by decide +kernel
theorem dX12_site_33 : decode cX12_site 33 = .ok (.putfield 60, 3) := by decide +kernel
theorem dX12_site_36 : decode cX12_site 36 = .ok (.aload_n 0, 1) := by decide +kernel
theorem dX12_site_37 : decode cX12_site 37 = .ok (.getfield 9, 3) := by decide +kernel
theorem dX12_site_40 : decode cX12_site 40 = .ok (.bipush 41, 2) := by decide +kernel
theorem dX12_site_42 : decode cX12_site 42 = .ok (.iconst 0, 1) := by decide +kernel
theorem dX12_site_43 : decode cX12_site 43 = .ok (.iastore, 1) := by decide +kernel
theorem dX12_site_44 : decode cX12_site 44 = .ok (.aload_n 0, 1) := by decide +kernel
theorem dX12_site_45 : decode cX12_site 45 = .ok (.getfield 9, 3) := by decide +kernel
theorem dX12_site_48 : decode cX12_site 48 = .ok (.sipush 168, 3) := by decide +kernel
theorem dX12_site_51 : decode cX12_site 51 = .ok (.aload_n 0, 1) := by decide +kernel
theorem dX12_site_52 : decode cX12_site 52 = .ok (.getfield 84, 3) := by decide +kernel
theorem dX12_site_55 : decode cX12_site 55 = .ok (.iadd, 1) := by decide +kernel
theorem dX12_site_56 : decode cX12_site 56 = .ok (.iconst 1, 1) := by decide +kernel
theorem dX12_site_57 : decode cX12_site 57 = .ok (.iastore, 1) := by decide +kernel
theorem dX12_site_58 : decode cX12_site 58 = .ok (.aload_n 0, 1) := by decide +kernel
theorem dX12_site_59 : decode cX12_site 59 = .ok (.getfield 9, 3) := by decide +kernel
theorem dX12_site_62 : decode cX12_site 62 = .ok (.sipush 173, 3) := by decide +kernel
theorem dX12_site_65 : decode cX12_site 65 = .ok (.aload_n 0, 1) := by decide +kernel
theorem dX12_site_66 : decode cX12_site 66 = .ok (.getfield 84, 3) := by decide +kernel
theorem dX12_site_69 : decode cX12_site 69 = .ok (.iadd, 1) := by decide +kernel
theorem dX12_site_70 : decode cX12_site 70 = .ok (.iconst 2, 1) := by decide +kernel
theorem dX12_site_71 : decode cX12_site 71 = .ok (.iastore, 1) := by decide +kernel
theorem dX12_site_72 : decode cX12_site 72 = .ok (.aload_n 0, 1) := by decide +kernel
theorem dX12_site_73 : decode cX12_site 73 = .ok (.getfield 9, 3) := by decide +kernel
theorem dX12_site_76 : decode cX12_site 76 = .ok (.sipush 178, 3) := by decide +kernel
theorem dX12_site_79 : decode cX12_site 79 = .ok (.aload_n 0, 1) := by decide +kernel
theorem dX12_site_80 : decode cX12_site 80 = .ok (.getfield 84, 3) := by decide +kernel
theorem dX12_site_83 : decode cX12_site 83 = .ok (.iadd, 1) := by decide +kernel
theorem dX12_site_84 : decode cX12_site 84 = .ok (.iconst 0, 1) := by decide +kernel
theorem dX12_site_85 : decode cX12_site 85 = .ok (.iastore, 1) := by decide +kernel
theorem dX12_site_86 : decode cX12_site 86 = .ok (.aload_n 0, 1) := by decide +kernel
theorem dX12_site_87 : decode cX12_site 87 = .ok (.iconst 0, 1) := by decide +kernel
theorem dX12_site_88 : decode cX12_site 88 = .ok (.putfield 57, 3) := by decide +kernel
theorem dX12_site_91 : decode cX12_site 91 = .ok (.aload_n 0, 1) := by decide +kernel
theorem dX12_site_92 : decode cX12_site 92 = .ok (.iconst 0, 1) := by decide +kernel
theorem dX12_site_93 : decode cX12_site 93 = .ok (.putfield 63, 3) := by decide +kernel
theorem dX12_site_96 : decode cX12_site 96 = .ok (.aload_n 0, 1) := by decide +kernel
theorem dX12_site_97 : decode cX12_site 97 = .ok (.iconst 0, 1) := by decide +kernel
theorem dX12_site_98 : decode cX12_site 98 = .ok (.putfield 87, 3) := by decide +kernel
theorem dX12_site_101 : decode cX12_site 101 = .ok (.iconst 1, 1) := by decide +kernel
theorem dX12_site_102 : decode cX12_site 102 = .ok (.istore_n 1, 1) := by decide +kernel
theorem dX12_site_103 : decode cX12_site 103 = .ok (.aload_n 0, 1) := by decide +kernel
theorem dX12_site_104 : decode cX12_site 104 = .ok (.invokevirtual 137, 3) := by decide +kernel
theorem dX12_site_107 : decode cX12_site 107 = .ok (.aload_n 0, 1) := by decide +kernel
