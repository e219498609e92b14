set_option maxRecDepth 20000 in
theorem ggX10_init_X8_init : GoodIn wsX10_init wsX8_init := goodIn_r _ [21, 22, 2, 3] (by decide +kernel) (by decide +kernel)
set_option maxRecDepth 20000 in
theorem gX10_init_X8_init_n52 : GoodIn wsX10_init (wsX8_init) := ggX10_init_X8_init
theorem dX10_init_0 : decode cX10_init 0 = .ok (.aload_n 0, 1) := by decide +kernel
theorem dX10_init_1 : decode cX10_init 1 = .ok (.invokespecial 3, 3) := by decide +kernel
theorem dX10_init_4 : decode cX10_init 4 = .ok (.aload_n 0, 1) := by decide +kernel
theorem dX10_init_5 : decode cX10_init 5 = .ok (.iconst 3, 1) := by decide +kernel
theorem dX10_init_6 : decode cX10_init 6 = .ok (.bipush 10, 2) := by decide +kernel
theorem dX10_init_8 : decode cX10_init 8 = .ok (.multianewarray 9 2, 4) := by decide +kernel
theorem dX10_init_12 : decode cX10_init 12 = .ok (.putfield 11, 3) := by decide +kernel
theorem dX10_init_15 : decode cX10_init 15 = .ok (.aload_n 0, 1) := by decide +kernel
theorem dX10_init_16 : decode cX10_init 16 = .ok (.iconst 4, 1) := by decide +kernel
theorem dX10_init_17 : decode cX10_init 17 = .ok (.anewarray 16, 3) := by decide +kernel
theorem dX10_init_20 : decode cX10_init 20 = .ok (.putfield 18, 3) := by decide +kernel
theorem dX10_init_23 : decode cX10_init 23 = .ok (.aload_n 0, 1) := by decide +kernel
theorem dX10_init_24 : decode cX10_init 24 = .ok (.iconst 4, 1) := by decide +kernel
theorem dX10_init_25 : decode cX10_init 25 = .ok (.newarray .int, 2) := by decide +kernel
theorem dX10_init_27 : decode cX10_init 27 = .ok (.putfield 22, 3) := by decide +kernel
theorem dX10_init_30 : decode cX10_init 30 = .ok (.aload_n 0, 1) := by decide +kernel
theorem dX10_init_31 : decode cX10_init 31 = .ok (.bipush 100, 2) := by decide +kernel
theorem dX10_init_33 : decode cX10_init 33 = .ok (.newarray .char, 2) := by decide +kernel
theorem dX10_init_35 : decode cX10_init 35 = .ok (.putfield 26, 3) := by decide +kernel
theorem dX10_init_38 : decode cX10_init 38 = .ok (.aload_n 0, 1) := by decide +kernel
theorem dX10_init_39 : decode cX10_init 39 = .ok (.bipush 12, 2) := by decide +kernel
theorem dX10_init_41 : decode cX10_init 41 = .ok (.newarray .int, 2) := by decide +kernel
theorem dX10_init_43 : decode cX10_init 43 = .ok (.putfield 30, 3) := by decide +kernel
theorem dX10_init_46 : decode cX10_init 46 = .ok (.aload_n 0, 1) := by decide +kernel
theorem dX10_init_47 : decode cX10_init 47 = .ok (.bipush 100, 2) := by decide +kernel
theorem dX10_init_49 : decode cX10_init 49 = .ok (.putfield 33, 3) := by decide +kernel
theorem dX10_init_52 : decode cX10_init 52 = .ok (.aload_n 0, 1) := by decide +kernel
theorem dX10_init_53 : decode cX10_init 53 = .ok (.iconst 4, 1) := by decide +kernel
theorem dX10_init_54 : decode cX10_init 54 = .ok (.anewarray 37, 3) := by decide +kernel
theorem dX10_init_57 : decode cX10_init 57 = .ok (.putfield 39, 3) := by decide +kernel
theorem dX10_init_60 : decode cX10_init 60 = .ok (.aload_n 0, 1) := by decide +kernel
theorem dX10_init_61 : decode cX10_init 61 = .ok (.bipush 6, 2) := by decide +kernel
theorem dX10_init_63 : decode cX10_init 63 = .ok (.newarray .int, 2) := by decide +kernel
theorem dX10_init_65 : decode cX10_init 65 = .ok (.putfield 45, 3) := by decide +kernel
theorem dX10_init_68 : decode cX10_init 68 = .ok (.aload_n 0, 1) := by decide +kernel
theorem dX10_init_69 : decode cX10_init 69 = .ok (.aload_n 1, 1) := by decide +kernel
theorem dX10_init_70 : decode cX10_init 70 = .ok (.putfield 48, 3) := by decide +kernel
theorem dX10_init_73 : decode cX10_init 73 = .ok (.iconst 0, 1) := by decide +kernel
theorem dX10_init_74 : decode cX10_init 74 = .ok (.istore_n 2, 1) := by decide +kernel
theorem dX10_init_75 : decode cX10_init 75 = .ok (.iload_n 2, 1) := by decide +kernel
theorem dX10_init_76 : decode cX10_init 76 = .ok (.iconst 4, 1) := by decide +kernel
theorem dX10_init_77 : decode cX10_init 77 = .ok (.if_icmp .ge 22, 3) := by decide +kernel
theorem dX10_init_80 : decode cX10_init 80 = .ok (.aload_n 0, 1) := by decide +kernel
theorem dX10_init_81 : decode cX10_init 81 = .ok (.getfield 39, 3) := by decide +kernel
theorem dX10_init_84 : decode cX10_init 84 = .ok (.iload_n 2, 1) := by decide +kernel
theorem dX10_init_85 : decode cX10_init 85 = .ok (.new 37, 3) := by decide +kernel
theorem dX10_init_88 : decode cX10_init 88 = .ok (.dup, 1) := by decide +kernel
theorem dX10_init_89 : decode cX10_init 89 = .ok (.invokespecial 52, 3) := by decide +kernel
theorem dX10_init_92 : decode cX10_init 92 = .ok (.aastore, 1) := by decide +kernel
theorem dX10_init_93 : decode cX10_init 93 = .ok (.iinc 2 1, 3) := by decide +kernel
theorem dX10_init_96 : decode cX10_init 96 = .ok (.goto (-21), 3) := by decide +kernel
theorem dX10_init_99 : decode cX10_init 99 = .ok (.return_, 1) := by decide +kernel
theorem dX10_find_0 : decode cX10_find 0 = .ok (.iload_n 1, 1) := by decide +kernel
theorem dX10_find_1 : decode cX10_find 1 = .ok (.ifCond .lt 16, 3) := by decide +kernel
theorem dX10_find_4 : decode cX10_find 4 = .ok (.iload_n 1, 1) := by decide +kernel
theorem dX10_find_5 : decode cX10_find 5 = .ok (.aload_n 0, 1) := by decide +kernel
theorem dX10_find_6 : decode cX10_find 6 = .ok (.getfield 53, 3) := by decide +kernel
theorem dX10_find_9 : decode cX10_find 9 = .ok (.if_icmp .ge 8, 3) := by decide +kernel
theorem dX10_find_12 : decode cX10_find 12 = .ok (.iload_n 1, 1) := by decide +kernel
theorem dX10_find_13 : decode cX10_find 13 = .ok (.iconst 4, 1) := by decide +kernel
theorem dX10_find_14 : decode cX10_find 14 = .ok (.if_icmp .lt 7, 3) := by decide +kernel
theorem dX10_find_17 : decode cX10_find 17 = .ok (.aconst_null, 1) := by decide +kernel
theorem dX10_find_18 : decode cX10_find 18 = .ok (.goto 9, 3) := by decide +kernel
theorem dX10_find_21 : decode cX10_find 21 = .ok (.aload_n 0, 1) := by decide +kernel
theorem dX10_find_22 : decode cX10_find 22 = .ok (.getfield 18, 3) := by decide +kernel
theorem dX10_find_25 : decode cX10_find 25 = .ok (.iload_n 1, 1) := by decide +kernel
theorem dX10_find_26 : decode cX10_find 26 = .ok (.aaload, 1) := by decide +kernel
theorem dX10_find_27 : decode cX10_find 27 = .ok (.areturn, 1) := by decide +kernel
theorem dX10_hire_0 : decode cX10_hire 0 = .ok (.aload_n 0, 1) := by decide +kernel
theorem dX10_hire_1 : decode cX10_hire 1 = .ok (.getfield 18, 3) := by decide +kernel
theorem dX10_hire_4 : decode cX10_hire 4 = .ok (.aload_n 1, 1) := by decide +kernel
theorem dX10_hire_5 : decode cX10_hire 5 = .ok (.getfield 56, 3) := by decide +kernel
theorem dX10_hire_8 : decode cX10_hire 8 = .ok (.aload_n 1, 1) := by decide +kernel
theorem dX10_hire_9 : decode cX10_hire 9 = .ok (.aastore, 1) := by decide +kernel
theorem dX10_hire_10 : decode cX10_hire 10 = .ok (.aload_n 0, 1) := by decide +kernel
theorem dX10_hire_11 : decode cX10_hire 11 = .ok (.getfield 22, 3) := by decide +kernel
theorem dX10_hire_14 : decode cX10_hire 14 = .ok (.aload_n 1, 1) := by decide +kernel
theorem dX10_hire_15 : decode cX10_hire 15 = .ok (.getfield 56, 3) := by decide +kernel
theorem dX10_hire_18 : decode cX10_hire 18 = .ok (.iconst 0, 1) := by decide +kernel
theorem dX10_hire_19 : decode cX10_hire 19 = .ok (.iastore, 1) := by decide +kernel
theorem dX10_hire_20 : decode cX10_hire 20 = .ok (.aload_n 0, 1) := by decide +kernel
theorem dX10_hire_21 : decode cX10_hire 21 = .ok (.aload_n 1, 1) := by decide +kernel
theorem dX10_hire_22 : decode cX10_hire 22 = .ok (.getfield 56, 3) := by decide +kernel
theorem dX10_hire_25 : decode cX10_hire 25 = .ok (.iconst 1, 1) := by decide +kernel
theorem dX10_hire_26 : decode cX10_hire 26 = .ok (.iadd, 1) := by decide +kernel
theorem dX10_hire_27 : decode cX10_hire 27 = .ok (.putfield 53, 3) := by decide +kernel
theorem dX10_hire_30 : decode cX10_hire 30 = .ok (.return_, 1) := by decide +kernel
set_option maxRecDepth 20000 in
theorem ggX10_settle_X10_forget : GoodIn wsX10_settle wsX10_forget := goodIn_r _ [7, 8, 9, 10, 11, 12, 13, 14, 15, 16, 17, 18, 19, 20, 21, 22, 23, 24, 25, 26, 27, 28, 29, 30, 31] (by decide +kernel) (by decide +kernel)
set_option maxRecDepth 20000 in
theorem gX10_settle_X10_forget : GoodIn wsX10_settle (wsV RX10 62 RX10 yX10_forget wsX10_forget) := goodIn_app (goodIn_of _ (by decide +kernel)) ggX10_settle_X10_forget
theorem dX10_settle_0 : decode cX10_settle 0 = .ok (.aload_n 0, 1) := by decide +kernel
theorem dX10_settle_1 : decode cX10_settle 1 = .ok (.aload_n 1, 1) := by decide +kernel
theorem dX10_settle_2 : decode cX10_settle 2 = .ok (.putfield 48, 3) := by decide +kernel
theorem dX10_settle_5 : decode cX10_settle 5 = .ok (.aload_n 0, 1) := by decide +kernel
theorem dX10_settle_6 : decode cX10_settle 6 = .ok (.dup, 1) := by decide +kernel
theorem dX10_settle_7 : decode cX10_settle 7 = .ok (.getfield 59, 3) := by decide +kernel
theorem dX10_settle_10 : decode cX10_settle 10 = .ok (.iconst 1, 1) := by decide +kernel
theorem dX10_settle_11 : decode cX10_settle 11 = .ok (.iadd, 1) := by decide +kernel
theorem dX10_settle_12 : decode cX10_settle 12 = .ok (.putfield 59, 3) := by decide +kernel
theorem dX10_settle_15 : decode cX10_settle 15 = .ok (.aload_n 0, 1) := by decide +kernel
theorem dX10_settle_16 : decode cX10_settle 16 = .ok (.invokevirtual 62, 3) := by decide +kernel
theorem dX10_settle_19 : decode cX10_settle 19 = .ok (.return_, 1) := by decide +kernel
set_option maxRecDepth 20000 in
theorem ggX10_lay_X10_forget : GoodIn wsX10_lay wsX10_forget := goodIn_r _ [6, 7, 8, 9, 10, 11, 12, 13, 14, 15, 16, 17, 18, 19, 20, 21, 22, 23, 24, 25, 26, 27, 28, 29, 30] (by decide +kernel) (by decide +kernel)
set_option maxRecDepth 20000 in
theorem gX10_lay_X10_forget : GoodIn wsX10_lay (wsV RX10 62 RX10 yX10_forget wsX10_forget) := goodIn_app (goodIn_of _ (by decide +kernel)) ggX10_lay_X10_forget
theorem dX10_lay_0 : decode cX10_lay 0 = .ok (.aload_n 0, 1) := by decide +kernel
theorem dX10_lay_1 : decode cX10_lay 1 = .ok (.getfield 11, 3) := by decide +kernel
theorem dX10_lay_4 : decode cX10_lay 4 = .ok (.iload_n 2, 1) := by decide +kernel
theorem dX10_lay_5 : decode cX10_lay 5 = .ok (.aaload, 1) := by decide +kernel
theorem dX10_lay_6 : decode cX10_lay 6 = .ok (.iload_n 1, 1) := by decide +kernel
theorem dX10_lay_7 : decode cX10_lay 7 = .ok (.iaload, 1) := by decide +kernel
theorem dX10_lay_8 : decode cX10_lay 8 = .ok (.istore 4, 2) := by decide +kernel
theorem dX10_lay_10 : decode cX10_lay 10 = .ok (.aload_n 0, 1) := by decide +kernel
theorem dX10_lay_11 : decode cX10_lay 11 = .ok (.getfield 11, 3) := by decide +kernel
theorem dX10_lay_14 : decode cX10_lay 14 = .ok (.iload_n 2, 1) := by decide +kernel
theorem dX10_lay_15 : decode cX10_lay 15 = .ok (.aaload, 1) := by decide +kernel
theorem dX10_lay_16 : decode cX10_lay 16 = .ok (.iload_n 1, 1) := by decide +kernel
theorem dX10_lay_17 : decode cX10_lay 17 = .ok (.iload_n 3, 1) := by decide +kernel
theorem dX10_lay_18 : decode cX10_lay 18 = .ok (.iastore, 1) := by decide +kernel
theorem dX10_lay_19 : decode cX10_lay 19 = .ok (.aload_n 0, 1) := by decide +kernel
theorem dX10_lay_20 : decode cX10_lay 20 = .ok (.invokevirtual 62, 3) := by decide +kernel
theorem dX10_lay_23 : decode cX10_lay 23 = .ok (.iload 4, 2) := by decide +kernel
theorem dX10_lay_25 : decode cX10_lay 25 = .ok (.ireturn, 1) := by decide +kernel
set_option maxRecDepth 20000 in
theorem ggX10_layAll_X10_lay : GoodIn wsX10_layAll wsX10_lay := goodIn_r _ [5, 6, 7, 8, 9, 4, 10, 11, 12, 13, 14, 15, 16, 17, 18, 19, 20, 21, 22, 23, 24, 25, 26, 27, 28, 29, 30, 31, 32, 33, 34] (by decide +kernel) (by decide +kernel)
set_option maxRecDepth 20000 in
theorem gX10_layAll_X10_lay : GoodIn wsX10_layAll (wsV RX10 65 RX10 yX10_lay wsX10_lay) := goodIn_app (goodIn_of _ (by decide +kernel)) ggX10_layAll_X10_lay
theorem dX10_layAll_0 : decode cX10_layAll 0 = .ok (.iconst 0, 1) := by decide +kernel
theorem dX10_layAll_1 : decode cX10_layAll 1 = .ok (.istore_n 3, 1) := by decide +kernel
theorem dX10_layAll_2 : decode cX10_layAll 2 = .ok (.iload_n 3, 1) := by decide +kernel
theorem dX10_layAll_3 : decode cX10_layAll 3 = .ok (.bipush 10, 2) := by decide +kernel
theorem dX10_layAll_5 : decode cX10_layAll 5 = .ok (.if_icmp .ge 26, 3) := by decide +kernel
theorem dX10_layAll_8 : decode cX10_layAll 8 = .ok (.iload_n 1, 1) := by decide +kernel
theorem dX10_layAll_9 : decode cX10_layAll 9 = .ok (.iload_n 3, 1) := by decide +kernel
theorem dX10_layAll_10 : decode cX10_layAll 10 = .ok (.ishr, 1) := by decide +kernel
theorem dX10_layAll_11 : decode cX10_layAll 11 = .ok (.iconst 1, 1) := by decide +kernel
theorem dX10_layAll_12 : decode cX10_layAll 12 = .ok (.iand, 1) := by decide +kernel
theorem dX10_layAll_13 : decode cX10_layAll 13 = .ok (.iconst 1, 1) := by decide +kernel
theorem dX10_layAll_14 : decode cX10_layAll 14 = .ok (.if_icmp .ne 11, 3) := by decide +kernel
theorem dX10_layAll_17 : decode cX10_layAll 17 = .ok (.aload_n 0, 1) := by decide +kernel
theorem dX10_layAll_18 : decode cX10_layAll 18 = .ok (.iload_n 3, 1) := by decide +kernel
theorem dX10_layAll_19 : decode cX10_layAll 19 = .ok (.iconst 2, 1) := by decide +kernel
theorem dX10_layAll_20 : decode cX10_layAll 20 = .ok (.iload_n 2, 1) := by decide +kernel
theorem dX10_layAll_21 : decode cX10_layAll 21 = .ok (.invokevirtual 65, 3) := by decide +kernel
theorem dX10_layAll_24 : decode cX10_layAll 24 = .ok (.pop, 1) := by decide +kernel
theorem dX10_layAll_25 : decode cX10_layAll 25 = .ok (.iinc 3 1, 3) := by decide +kernel
theorem dX10_layAll_28 : decode cX10_layAll 28 = .ok (.goto (-26), 3) := by decide +kernel
theorem dX10_layAll_31 : decode cX10_layAll 31 = .ok (.return_, 1) := by decide +kernel
theorem dX10_isBare_0 : decode cX10_isBare 0 = .ok (.iconst 0, 1) := by decide +kernel
theorem dX10_isBare_1 : decode cX10_isBare 1 = .ok (.istore_n 2, 1) := by decide +kernel
theorem dX10_isBare_2 : decode cX10_isBare 2 = .ok (.iload_n 2, 1) := by decide +kernel
theorem dX10_isBare_3 : decode cX10_isBare 3 = .ok (.bipush 10, 2) := by decide +kernel
theorem dX10_isBare_5 : decode cX10_isBare 5 = .ok (.if_icmp .ge 31, 3) := by decide +kernel
theorem dX10_isBare_8 : decode cX10_isBare 8 = .ok (.iload_n 1, 1) := by decide +kernel
theorem dX10_isBare_9 : decode cX10_isBare 9 = .ok (.iload_n 2, 1) := by decide +kernel
theorem dX10_isBare_10 : decode cX10_isBare 10 = .ok (.ishr, 1) := by decide +kernel
theorem dX10_isBare_11 : decode cX10_isBare 11 = .ok (.iconst 1, 1) := by decide +kernel
theorem dX10_isBare_12 : decode cX10_isBare 12 = .ok (.iand, 1) := by decide +kernel
theorem dX10_isBare_13 : decode cX10_isBare 13 = .ok (.iconst 1, 1) := by decide +kernel
theorem dX10_isBare_14 : decode cX10_isBare 14 = .ok (.if_icmp .ne 16, 3) := by decide +kernel
theorem dX10_isBare_17 : decode cX10_isBare 17 = .ok (.aload_n 0, 1) := by decide +kernel
theorem dX10_isBare_18 : decode cX10_isBare 18 = .ok (.getfield 11, 3) := by decide +kernel
theorem dX10_isBare_21 : decode cX10_isBare 21 = .ok (.iconst 2, 1) := by decide +kernel
theorem dX10_isBare_22 : decode cX10_isBare 22 = .ok (.aaload, 1) := by decide +kernel
theorem dX10_isBare_23 : decode cX10_isBare 23 = .ok (.iload_n 2, 1) := by decide +kernel
theorem dX10_isBare_24 : decode cX10_isBare 24 = .ok (.iaload, 1) := by decide +kernel
theorem dX10_isBare_25 : decode cX10_isBare 25 = .ok (.ifCond .le 5, 3) := by decide +kernel
theorem dX10_isBare_28 : decode cX10_isBare 28 = .ok (.iconst 0, 1) := by decide +kernel
theorem dX10_isBare_29 : decode cX10_isBare 29 = .ok (.ireturn, 1) := by decide +kernel
theorem dX10_isBare_30 : decode cX10_isBare 30 = .ok (.iinc 2 1, 3) := by decide +kernel
theorem dX10_isBare_33 : decode cX10_isBare 33 = .ok (.goto (-31), 3) := by decide +kernel
theorem dX10_isBare_36 : decode cX10_isBare 36 = .ok (.iconst 1, 1) := by decide +kernel
theorem dX10_isBare_37 : decode cX10_isBare 37 = .ok (.ireturn, 1) := by decide +kernel
theorem dX10_tire_0 : decode cX10_tire 0 = .ok (.aload_n 0, 1) := by decide +kernel
theorem dX10_tire_1 : decode cX10_tire 1 = .ok (.getfield 22, 3) := by decide +kernel
theorem dX10_tire_4 : decode cX10_tire 4 = .ok (.aload_n 1, 1) := by decide +kernel
theorem dX10_tire_5 : decode cX10_tire 5 = .ok (.getfield 56, 3) := by decide +kernel
theorem dX10_tire_8 : decode cX10_tire 8 = .ok (.iaload, 1) := by decide +kernel
theorem dX10_tire_9 : decode cX10_tire 9 = .ok (.iload_n 2, 1) := by decide +kernel
theorem dX10_tire_10 : decode cX10_tire 10 = .ok (.iadd, 1) := by decide +kernel
theorem dX10_tire_11 : decode cX10_tire 11 = .ok (.istore_n 3, 1) := by decide +kernel
theorem dX10_tire_12 : decode cX10_tire 12 = .ok (.aload_n 0, 1) := by decide +kernel
theorem dX10_tire_13 : decode cX10_tire 13 = .ok (.getfield 22, 3) := by decide +kernel
theorem dX10_tire_16 : decode cX10_tire 16 = .ok (.aload_n 1, 1) := by decide +kernel
theorem dX10_tire_17 : decode cX10_tire 17 = .ok (.getfield 56, 3) := by decide +kernel
theorem dX10_tire_20 : decode cX10_tire 20 = .ok (.iconst 0, 1) := by decide +kernel
theorem dX10_tire_21 : decode cX10_tire 21 = .ok (.bipush 99, 2) := by decide +kernel
theorem dX10_tire_23 : decode cX10_tire 23 = .ok (.iload_n 3, 1) := by decide +kernel
theorem dX10_tire_24 : decode cX10_tire 24 = .ok (.invokestatic 69, 3) := by decide +kernel
theorem dX10_tire_27 : decode cX10_tire 27 = .ok (.invokestatic 75, 3) := by decide +kernel
theorem dX10_tire_30 : decode cX10_tire 30 = .ok (.iastore, 1) := by decide +kernel
theorem dX10_tire_31 : decode cX10_tire 31 = .ok (.return_, 1) := by decide +kernel
set_option maxRecDepth 20000 in
theorem ggX10_plan_X10_comesIn : GoodIn wsX10_plan wsX10_comesIn := goodIn_r _ [15, 16, 17, 18, 19, 20, 21, 22, 23, 24, 25, 26, 27, 28, 29, 30, 31, 32, 33, 34, 35, 36, 37, 38, 39, 173, 174, 175, 176, 177, 178, 179, 180, 181, 182, 183, 184, 185, 186, 187, 188, 189, 190, 191, 192, 193, 194, 195, 196, 197, 198, 199, 200, 201, 202, 203, 204, 205, 206, 207, 208, 209, 210, 211, 212, 213, 214, 215, 216] (by decide +kernel) (by decide +kernel)
set_option maxRecDepth 20000 in
theorem gX10_plan_X10_comesIn : GoodIn wsX10_plan (wsV RX10 78 RX10 yX10_comesIn wsX10_comesIn) := goodIn_app (goodIn_of _ (by decide +kernel)) ggX10_plan_X10_comesIn
set_option maxRecDepth 20000 in
theorem ggX10_plan_X10_walk : GoodIn wsX10_plan wsX10_walk := goodIn_r _ [43, 44, 6, 45, 46, 47, 18, 48, 16, 17, 19, 4, 9, 49, 3, 50, 51, 52, 14, 53, 54, 55, 56, 57, 58, 59, 60, 61, 62, 63, 64, 65, 66, 67, 68, 69, 70, 71, 72, 73, 74, 75, 76, 35, 77, 78, 79, 80, 81, 82, 83, 84, 85, 86, 87, 88, 89, 90, 91, 92, 93, 94, 95, 96, 97, 98, 99, 100, 101, 102, 103, 104, 105, 106, 107, 108, 109, 110, 111, 112, 113, 114, 115, 116, 117, 118, 119, 120, 121, 122, 123, 124, 125, 126, 127, 128, 129, 130, 131, 132, 133, 134, 135, 136, 173, 174, 175, 176, 177, 178, 179, 180, 181, 182, 183, 184, 185, 186, 187, 188, 217, 218, 219, 220, 221, 222, 189, 190, 191, 192, 193, 194, 195, 196, 197, 198, 199, 200, 201, 202, 203, 204, 205, 206, 207, 208, 209, 210, 211, 212, 213, 214, 215, 216, 223, 224, 225, 226, 227, 228, 229, 230] (by decide +kernel) (by decide +kernel)
set_option maxRecDepth 20000 in
theorem gX10_plan_X10_walk : GoodIn wsX10_plan (wsV RX10 89 RX10 yX10_walk wsX10_walk) := goodIn_app (goodIn_of _ (by decide +kernel)) ggX10_plan_X10_walk
set_option maxRecDepth 20000 in
theorem ggX10_plan_X2_waits : GoodIn wsX10_plan wsX2_waits := goodIn_r _ [141] (by decide +kernel) (by decide +kernel)
set_option maxRecDepth 20000 in
theorem gX10_plan_X2_waits_u96X0 : GoodIn wsX10_plan (va_wsU RX10 96 RX0 "BarrowPlank$Man" ⟨"BarrowPlank$Man", "waits", "()I"⟩ yX2_waits wsX2_waits) := goodIn_app (goodIn_of _ (by decide +kernel)) ggX10_plan_X2_waits
set_option maxRecDepth 20000 in
theorem gX10_plan_X2_waits_u96X1 : GoodIn wsX10_plan (va_wsU RX10 96 RX1 "BarrowPlank$Man" ⟨"BarrowPlank$Man", "waits", "()I"⟩ yX2_waits wsX2_waits) := goodIn_app (goodIn_of _ (by decide +kernel)) ggX10_plan_X2_waits
set_option maxRecDepth 20000 in
theorem gX10_plan_X2_waits : GoodIn wsX10_plan (wsV RX10 96 RX2 yX2_waits wsX2_waits) := goodIn_app (goodIn_of _ (by decide +kernel)) ggX10_plan_X2_waits
set_option maxRecDepth 20000 in
theorem gX10_plan_X2_waits_u96X3 : GoodIn wsX10_plan (va_wsU RX10 96 RX3 "BarrowPlank$Man" ⟨"BarrowPlank$Man", "waits", "()I"⟩ yX2_waits wsX2_waits) := goodIn_app (goodIn_of _ (by decide +kernel)) ggX10_plan_X2_waits
set_option maxRecDepth 20000 in
theorem gX10_plan_X2_waits_u96X6 : GoodIn wsX10_plan (va_wsU RX10 96 RX6 "BarrowPlank$Man" ⟨"BarrowPlank$Man", "waits", "()I"⟩ yX2_waits wsX2_waits) := goodIn_app (goodIn_of _ (by decide +kernel)) ggX10_plan_X2_waits
set_option maxRecDepth 20000 in
theorem ggX10_plan_X9_waits : GoodIn wsX10_plan wsX9_waits := goodIn_r _ [151, 152, 153, 189, 190, 191, 192, 193, 194, 195, 196, 197, 198, 199, 200, 201, 202, 203, 204, 205, 206, 207, 208, 209, 210, 211, 212, 213, 214, 215, 216] (by decide +kernel) (by decide +kernel)
set_option maxRecDepth 20000 in
theorem gX10_plan_X9_waits_u96X7 : GoodIn wsX10_plan (va_wsO RX10 96 RX7 "BarrowPlank$Man" ⟨"BarrowPlank$Man", "waits", "()I"⟩ yX9_waits wsX9_waits) := goodIn_app (goodIn_of _ (by decide +kernel)) ggX10_plan_X9_waits
set_option maxRecDepth 20000 in
theorem gX10_plan_X9_waits_u96X9 : GoodIn wsX10_plan (va_wsO RX10 96 RX9 "BarrowPlank$Man" ⟨"BarrowPlank$Man", "waits", "()I"⟩ yX9_waits wsX9_waits) := goodIn_app (goodIn_of _ (by decide +kernel)) ggX10_plan_X9_waits
set_option maxRecDepth 20000 in
theorem ggX10_plan_X2_drags : GoodIn wsX10_plan wsX2_drags := goodIn_r _ [159] (by decide +kernel) (by decide +kernel)
set_option maxRecDepth 20000 in
theorem gX10_plan_X2_drags_u106X0 : GoodIn wsX10_plan (va_wsU RX10 106 RX0 "BarrowPlank$Man" ⟨"BarrowPlank$Man", "drags", "(I)I"⟩ yX2_drags wsX2_drags) := goodIn_app (goodIn_of _ (by decide +kernel)) ggX10_plan_X2_drags
set_option maxRecDepth 20000 in
theorem gX10_plan_X2_drags_u106X1 : GoodIn wsX10_plan (va_wsU RX10 106 RX1 "BarrowPlank$Man" ⟨"BarrowPlank$Man", "drags", "(I)I"⟩ yX2_drags wsX2_drags) := goodIn_app (goodIn_of _ (by decide +kernel)) ggX10_plan_X2_drags
set_option maxRecDepth 20000 in
theorem gX10_plan_X2_drags : GoodIn wsX10_plan (wsV RX10 106 RX2 yX2_drags wsX2_drags) := goodIn_app (goodIn_of _ (by decide +kernel)) ggX10_plan_X2_drags
set_option maxRecDepth 20000 in
theorem ggX10_plan_X6_drags : GoodIn wsX10_plan wsX6_drags := goodIn_r _ [167, 168, 169, 189, 190, 191, 192, 193, 194, 195, 196, 197, 198, 199, 200, 201, 202, 203, 204, 205, 206, 207, 208, 209, 210, 211, 212, 213, 214, 215, 216] (by decide +kernel) (by decide +kernel)
set_option maxRecDepth 20000 in
theorem gX10_plan_X6_drags_u106X3 : GoodIn wsX10_plan (va_wsO RX10 106 RX3 "BarrowPlank$Man" ⟨"BarrowPlank$Man", "drags", "(I)I"⟩ yX6_drags wsX6_drags) := goodIn_app (goodIn_of _ (by decide +kernel)) ggX10_plan_X6_drags
set_option maxRecDepth 20000 in
theorem gX10_plan_X6_drags_u106X6 : GoodIn wsX10_plan (va_wsO RX10 106 RX6 "BarrowPlank$Man" ⟨"BarrowPlank$Man", "drags", "(I)I"⟩ yX6_drags wsX6_drags) := goodIn_app (goodIn_of _ (by decide +kernel)) ggX10_plan_X6_drags
set_option maxRecDepth 20000 in
theorem gX10_plan_X2_drags_u106X7 : GoodIn wsX10_plan (va_wsU RX10 106 RX7 "BarrowPlank$Man" ⟨"BarrowPlank$Man", "drags", "(I)I"⟩ yX2_drags wsX2_drags) := goodIn_app (goodIn_of _ (by decide +kernel)) ggX10_plan_X2_drags
set_option maxRecDepth 20000 in
theorem gX10_plan_X2_drags_u106X9 : GoodIn wsX10_plan (va_wsU RX10 106 RX9 "BarrowPlank$Man" ⟨"BarrowPlank$Man", "drags", "(I)I"⟩ yX2_drags wsX2_drags) := goodIn_app (goodIn_of _ (by decide +kernel)) ggX10_plan_X2_drags
theorem dX10_plan_0 : decode cX10_plan 0 = .ok (.aload_n 0, 1) := by decide +kernel
theorem dX10_plan_1 : decode cX10_plan 1 = .ok (.getfield 39, 3) := by decide +kernel
theorem dX10_plan_4 : decode cX10_plan 4 = .ok (.aload_n 1, 1) := by decide +kernel
theorem dX10_plan_5 : decode cX10_plan 5 = .ok (.getfield 56, 3) := by decide +kernel
theorem dX10_plan_8 : decode cX10_plan 8 = .ok (.aaload, 1) := by decide +kernel
theorem dX10_plan_9 : decode cX10_plan 9 = .ok (.astore_n 3, 1) := by decide +kernel
theorem dX10_plan_10 : decode cX10_plan 10 = .ok (.aload_n 0, 1) := by decide +kernel
theorem dX10_plan_11 : decode cX10_plan 11 = .ok (.aload_n 1, 1) := by decide +kernel
theorem dX10_plan_12 : decode cX10_plan 12 = .ok (.iload_n 2, 1) := by decide +kernel
theorem dX10_plan_13 : decode cX10_plan 13 = .ok (.invokevirtual 78, 3) := by decide +kernel
theorem dX10_plan_16 : decode cX10_plan 16 = .ok (.istore 4, 2) := by decide +kernel
theorem dX10_plan_18 : decode cX10_plan 18 = .ok (.aload_n 3, 1) := by decide +kernel
theorem dX10_plan_19 : decode cX10_plan 19 = .ok (.getfield 82, 3) := by decide +kernel
theorem dX10_plan_22 : decode cX10_plan 22 = .ok (.ifCond .eq 12, 3) := by decide +kernel
theorem dX10_plan_25 : decode cX10_plan 25 = .ok (.aload_n 3, 1) := by decide +kernel
theorem dX10_plan_26 : decode cX10_plan 26 = .ok (.getfield 86, 3) := by decide +kernel
theorem dX10_plan_29 : decode cX10_plan 29 = .ok (.iload 4, 2) := by decide +kernel
theorem dX10_plan_31 : decode cX10_plan 31 = .ok (.if_icmp .eq 11, 3) := by decide +kernel
theorem dX10_plan_34 : decode cX10_plan 34 = .ok (.aload_n 0, 1) := by decide +kernel
theorem dX10_plan_35 : decode cX10_plan 35 = .ok (.aload_n 3, 1) := by decide +kernel
theorem dX10_plan_36 : decode cX10_plan 36 = .ok (.aload_n 1, 1) := by decide +kernel
theorem dX10_plan_37 : decode cX10_plan 37 = .ok (.iload 4, 2) := by decide +kernel
theorem dX10_plan_39 : decode cX10_plan 39 = .ok (.invokevirtual 89, 3) := by decide +kernel
theorem dX10_plan_42 : decode cX10_plan 42 = .ok (.aload_n 0, 1) := by decide +kernel
theorem dX10_plan_43 : decode cX10_plan 43 = .ok (.getfield 22, 3) := by decide +kernel
theorem dX10_plan_46 : decode cX10_plan 46 = .ok (.aload_n 1, 1) := by decide +kernel
theorem dX10_plan_47 : decode cX10_plan 47 = .ok (.getfield 56, 3) := by decide +kernel
theorem dX10_plan_50 : decode cX10_plan 50 = .ok (.iaload, 1) := by decide +kernel
theorem dX10_plan_51 : decode cX10_plan 51 = .ok (.istore 5, 2) := by decide +kernel
theorem dX10_plan_53 : decode cX10_plan 53 = .ok (.aload_n 3, 1) := by decide +kernel
theorem dX10_plan_54 : decode cX10_plan 54 = .ok (.aload_n 0, 1) := by decide +kernel
theorem dX10_plan_55 : decode cX10_plan 55 = .ok (.getfield 48, 3) := by decide +kernel
theorem dX10_plan_58 : decode cX10_plan 58 = .ok (.getfield 93, 3) := by decide +kernel
theorem dX10_plan_61 : decode cX10_plan 61 = .ok (.iload 4, 2) := by decide +kernel
theorem dX10_plan_63 : decode cX10_plan 63 = .ok (.imul, 1) := by decide +kernel
theorem dX10_plan_64 : decode cX10_plan 64 = .ok (.aload_n 1, 1) := by decide +kernel
theorem dX10_plan_65 : decode cX10_plan 65 = .ok (.invokevirtual 96, 3) := by decide +kernel
theorem dX10_plan_68 : decode cX10_plan 68 = .ok (.iadd, 1) := by decide +kernel
theorem dX10_plan_69 : decode cX10_plan 69 = .ok (.putfield 100, 3) := by decide +kernel
theorem dX10_plan_72 : decode cX10_plan 72 = .ok (.aload_n 3, 1) := by decide +kernel
theorem dX10_plan_73 : decode cX10_plan 73 = .ok (.aload_n 3, 1) := by decide +kernel
theorem dX10_plan_74 : decode cX10_plan 74 = .ok (.getfield 100, 3) := by decide +kernel
theorem dX10_plan_77 : decode cX10_plan 77 = .ok (.aload_n 3, 1) := by decide +kernel
theorem dX10_plan_78 : decode cX10_plan 78 = .ok (.getfield 103, 3) := by decide +kernel
theorem dX10_plan_81 : decode cX10_plan 81 = .ok (.iadd, 1) := by decide +kernel
theorem dX10_plan_82 : decode cX10_plan 82 = .ok (.bipush 20, 2) := by decide +kernel
theorem dX10_plan_84 : decode cX10_plan 84 = .ok (.iload 5, 2) := by decide +kernel
theorem dX10_plan_86 : decode cX10_plan 86 = .ok (.bipush 10, 2) := by decide +kernel
theorem dX10_plan_88 : decode cX10_plan 88 = .ok (.idiv, 1) := by decide +kernel
theorem dX10_plan_89 : decode cX10_plan 89 = .ok (.aload_n 1, 1) := by decide +kernel
theorem dX10_plan_90 : decode cX10_plan 90 = .ok (.iload 5, 2) := by decide +kernel
theorem dX10_plan_92 : decode cX10_plan 92 = .ok (.invokevirtual 106, 3) := by decide +kernel
theorem dX10_plan_95 : decode cX10_plan 95 = .ok (.iadd, 1) := by decide +kernel
theorem dX10_plan_96 : decode cX10_plan 96 = .ok (.imul, 1) := by decide +kernel
theorem dX10_plan_97 : decode cX10_plan 97 = .ok (.iadd, 1) := by decide +kernel
theorem dX10_plan_98 : decode cX10_plan 98 = .ok (.putfield 110, 3) := by decide +kernel
theorem dX10_plan_101 : decode cX10_plan 101 = .ok (.aload_n 3, 1) := by decide +kernel
theorem dX10_plan_102 : decode cX10_plan 102 = .ok (.areturn, 1) := by decide +kernel
set_option maxRecDepth 20000 in
theorem ggX10_finish_X10_tire : GoodIn wsX10_finish wsX10_tire := goodIn_r _ [15, 16, 17, 18, 19, 20, 21, 22, 23, 24, 36, 37, 38, 39, 40, 41, 42, 43, 44, 45, 46, 47, 48, 49, 50, 51, 58, 59, 60, 61, 62, 63, 64, 65, 66, 67, 68, 69, 70, 71, 72, 73, 74, 75, 76, 77, 78, 79, 80, 81, 82, 83, 84, 85] (by decide +kernel) (by decide +kernel)
set_option maxRecDepth 20000 in
theorem gX10_finish_X10_tire : GoodIn wsX10_finish (wsV RX10 126 RX10 yX10_tire wsX10_tire) := goodIn_app (goodIn_of _ (by decide +kernel)) ggX10_finish_X10_tire
set_option maxRecDepth 20000 in
theorem ggX10_finish_X10_soften : GoodIn wsX10_finish wsX10_soften := goodIn_r _ [28, 29, 30, 31, 32, 14, 33, 34, 35, 36, 37, 38, 39, 40, 41, 42, 43, 44, 45, 46, 47, 48, 49, 50, 51, 52, 53, 54, 55, 56, 57] (by decide +kernel) (by decide +kernel)
set_option maxRecDepth 20000 in
theorem gX10_finish_X10_soften : GoodIn wsX10_finish (wsV RX10 132 RX10 yX10_soften wsX10_soften) := goodIn_app (goodIn_of _ (by decide +kernel)) ggX10_finish_X10_soften
theorem dX10_finish_0 : decode cX10_finish 0 = .ok (.aload_n 0, 1) := by decide +kernel
theorem dX10_finish_1 : decode cX10_finish 1 = .ok (.dup, 1) := by decide +kernel
theorem dX10_finish_2 : decode cX10_finish 2 = .ok (.getfield 33, 3) := by decide +kernel
theorem dX10_finish_5 : decode cX10_finish 5 = .ok (.aload_n 2, 1) := by decide +kernel
theorem dX10_finish_6 : decode cX10_finish 6 = .ok (.getfield 86, 3) := by decide +kernel
theorem dX10_finish_9 : decode cX10_finish 9 = .ok (.isub, 1) := by decide +kernel
theorem dX10_finish_10 : decode cX10_finish 10 = .ok (.putfield 33, 3) := by decide +kernel
theorem dX10_finish_13 : decode cX10_finish 13 = .ok (.aload_n 0, 1) := by decide +kernel
theorem dX10_finish_14 : decode cX10_finish 14 = .ok (.dup, 1) := by decide +kernel
theorem dX10_finish_15 : decode cX10_finish 15 = .ok (.getfield 113, 3) := by decide +kernel
theorem dX10_finish_18 : decode cX10_finish 18 = .ok (.aload_n 2, 1) := by decide +kernel
theorem dX10_finish_19 : decode cX10_finish 19 = .ok (.getfield 116, 3) := by decide +kernel
theorem dX10_finish_22 : decode cX10_finish 22 = .ok (.iadd, 1) := by decide +kernel
theorem dX10_finish_23 : decode cX10_finish 23 = .ok (.putfield 113, 3) := by decide +kernel
theorem dX10_finish_26 : decode cX10_finish 26 = .ok (.aload_n 0, 1) := by decide +kernel
theorem dX10_finish_27 : decode cX10_finish 27 = .ok (.dup, 1) := by decide +kernel
theorem dX10_finish_28 : decode cX10_finish 28 = .ok (.getfield 117, 3) := by decide +kernel
theorem dX10_finish_31 : decode cX10_finish 31 = .ok (.aload_n 2, 1) := by decide +kernel
theorem dX10_finish_32 : decode cX10_finish 32 = .ok (.getfield 110, 3) := by decide +kernel
theorem dX10_finish_35 : decode cX10_finish 35 = .ok (.iadd, 1) := by decide +kernel
theorem dX10_finish_36 : decode cX10_finish 36 = .ok (.putfield 117, 3) := by decide +kernel
theorem dX10_finish_39 : decode cX10_finish 39 = .ok (.aload_n 0, 1) := by decide +kernel
theorem dX10_finish_40 : decode cX10_finish 40 = .ok (.aload_n 1, 1) := by decide +kernel
theorem dX10_finish_41 : decode cX10_finish 41 = .ok (.aload_n 2, 1) := by decide +kernel
theorem dX10_finish_42 : decode cX10_finish 42 = .ok (.getfield 86, 3) := by decide +kernel
theorem dX10_finish_45 : decode cX10_finish 45 = .ok (.aload_n 1, 1) := by decide +kernel
theorem dX10_finish_46 : decode cX10_finish 46 = .ok (.getfield 120, 3) := by decide +kernel
theorem dX10_finish_49 : decode cX10_finish 49 = .ok (.if_icmp .le 13, 3) := by decide +kernel
theorem dX10_finish_52 : decode cX10_finish 52 = .ok (.aload_n 0, 1) := by decide +kernel
theorem dX10_finish_53 : decode cX10_finish 53 = .ok (.getfield 48, 3) := by decide +kernel
theorem dX10_finish_56 : decode cX10_finish 56 = .ok (.getfield 123, 3) := by decide +kernel
theorem dX10_finish_59 : decode cX10_finish 59 = .ok (.goto 4, 3) := by decide +kernel
theorem dX10_finish_62 : decode cX10_finish 62 = .ok (.iconst (-1), 1) := by decide +kernel
theorem dX10_finish_63 : decode cX10_finish 63 = .ok (.invokevirtual 126, 3) := by decide +kernel
theorem dX10_finish_66 : decode cX10_finish 66 = .ok (.aload_n 0, 1) := by decide +kernel
theorem dX10_finish_67 : decode cX10_finish 67 = .ok (.dup, 1) := by decide +kernel
theorem dX10_finish_68 : decode cX10_finish 68 = .ok (.getfield 129, 3) := by decide +kernel
theorem dX10_finish_71 : decode cX10_finish 71 = .ok (.iconst 1, 1) := by decide +kernel
theorem dX10_finish_72 : decode cX10_finish 72 = .ok (.iadd, 1) := by decide +kernel
theorem dX10_finish_73 : decode cX10_finish 73 = .ok (.putfield 129, 3) := by decide +kernel
theorem dX10_finish_76 : decode cX10_finish 76 = .ok (.aload_n 0, 1) := by decide +kernel
theorem dX10_finish_77 : decode cX10_finish 77 = .ok (.getfield 129, 3) := by decide +kernel
theorem dX10_finish_80 : decode cX10_finish 80 = .ok (.iconst 3, 1) := by decide +kernel
theorem dX10_finish_81 : decode cX10_finish 81 = .ok (.irem, 1) := by decide +kernel
theorem dX10_finish_82 : decode cX10_finish 82 = .ok (.ifCond .ne 7, 3) := by decide +kernel
theorem dX10_finish_85 : decode cX10_finish 85 = .ok (.aload_n 0, 1) := by decide +kernel
theorem dX10_finish_86 : decode cX10_finish 86 = .ok (.invokevirtual 132, 3) := by decide +kernel
theorem dX10_finish_89 : decode cX10_finish 89 = .ok (.return_, 1) := by decide +kernel
set_option maxRecDepth 20000 in
theorem ggX10_carry_X10_plan : GoodIn wsX10_carry wsX10_plan := goodIn_r _ [8, 9, 10, 11, 12, 13, 14, 15, 16, 17, 3, 18, 19, 20, 7, 21, 22, 23, 24, 25, 2, 26, 27, 28, 29, 30, 31, 32, 33, 34, 35, 36, 37, 38, 39, 40, 41, 42, 43, 44, 45, 46, 47, 48, 49, 50, 51, 52, 53, 54, 55, 56, 57, 58, 59, 60, 61, 62, 63, 64, 65, 66, 67, 68, 69, 70, 71, 72, 73, 74, 75, 76, 77, 78, 79, 80, 81, 82, 83, 84, 85, 86, 87, 88, 89, 90, 91, 92, 93, 94, 95, 96, 97, 98, 99, 100, 101, 102, 103, 104, 105, 106, 107, 108, 109, 110, 111, 112, 113, 114, 115, 116, 117, 118, 119, 120, 121, 122, 123, 124, 125, 126, 127, 128, 129, 130, 131, 132, 133, 134, 135, 136, 137, 138, 139, 140, 141, 142, 143, 144, 145, 146, 147, 148, 149, 150, 151, 152, 153, 154, 155, 156, 157, 158, 159, 160, 161, 162, 163, 164, 165, 166, 167, 168, 169, 170, 171, 172, 173, 174, 175, 176, 177, 198, 199, 200, 201, 202, 203, 204, 205, 206, 207, 208, 209, 210, 211, 212, 213, 220, 221, 222, 223, 224, 225, 226, 227, 228, 229, 230, 231, 232, 233, 234, 235, 236, 237, 238, 239, 240, 241, 242, 243, 244, 245, 246, 247, 214, 215, 216, 217, 218, 219, 248, 249, 250, 251, 252, 253, 254, 255] (by decide +kernel) (by decide +kernel)
set_option maxRecDepth 20000 in
theorem gX10_carry_X10_plan : GoodIn wsX10_carry (wsV RX10 135 RX10 yX10_plan wsX10_plan) := goodIn_app (goodIn_of _ (by decide +kernel)) ggX10_carry_X10_plan
set_option maxRecDepth 20000 in
theorem ggX10_carry_X10_finish : GoodIn wsX10_carry wsX10_finish := goodIn_r _ [181, 2, 12, 182, 54, 1, 3, 183, 14, 184, 185, 186, 187, 188, 7, 189, 13, 10, 22, 23, 24, 25, 51, 52, 53, 190, 191, 192, 193, 49, 194, 195, 196, 197, 9, 11, 198, 199, 200, 201, 202, 203, 204, 205, 206, 207, 208, 209, 210, 211, 212, 213, 214, 215, 216, 217, 218, 219, 220, 221, 222, 223, 224, 225, 226, 227, 228, 229, 230, 231, 232, 233, 234, 235, 236, 237, 238, 239, 240, 241, 242, 243, 244, 245, 246, 247, 248, 249, 250, 251, 252, 253, 254, 255] (by decide +kernel) (by decide +kernel)
set_option maxRecDepth 20000 in
theorem gX10_carry_X10_finish : GoodIn wsX10_carry (wsV RX10 139 RX10 yX10_finish wsX10_finish) := goodIn_app (goodIn_of _ (by decide +kernel)) ggX10_carry_X10_finish
theorem dX10_carry_0 : decode cX10_carry 0 = .ok (.aload_n 0, 1) := by decide +kernel
theorem dX10_carry_1 : decode cX10_carry 1 = .ok (.getfield 117, 3) := by decide +kernel
theorem dX10_carry_4 : decode cX10_carry 4 = .ok (.iload_n 3, 1) := by decide +kernel
theorem dX10_carry_5 : decode cX10_carry 5 = .ok (.iadd, 1) := by decide +kernel
theorem dX10_carry_6 : decode cX10_carry 6 = .ok (.istore 4, 2) := by decide +kernel
theorem dX10_carry_8 : decode cX10_carry 8 = .ok (.iconst 0, 1) := by decide +kernel
theorem dX10_carry_9 : decode cX10_carry 9 = .ok (.istore 5, 2) := by decide +kernel
theorem dX10_carry_11 : decode cX10_carry 11 = .ok (.iload 5, 2) := by decide +kernel
theorem dX10_carry_13 : decode cX10_carry 13 = .ok (.sipush 200, 3) := by decide +kernel
theorem dX10_carry_16 : decode cX10_carry 16 = .ok (.if_icmp .ge 49, 3) := by decide +kernel
theorem dX10_carry_19 : decode cX10_carry 19 = .ok (.aload_n 0, 1) := by decide +kernel
theorem dX10_carry_20 : decode cX10_carry 20 = .ok (.getfield 33, 3) := by decide +kernel
theorem dX10_carry_23 : decode cX10_carry 23 = .ok (.ifCond .le 42, 3) := by decide +kernel
theorem dX10_carry_26 : decode cX10_carry 26 = .ok (.aload_n 0, 1) := by decide +kernel
theorem dX10_carry_27 : decode cX10_carry 27 = .ok (.aload_n 1, 1) := by decide +kernel
theorem dX10_carry_28 : decode cX10_carry 28 = .ok (.iload_n 2, 1) := by decide +kernel
theorem dX10_carry_29 : decode cX10_carry 29 = .ok (.invokevirtual 135, 3) := by decide +kernel
theorem dX10_carry_32 : decode cX10_carry 32 = .ok (.astore 6, 2) := by decide +kernel
theorem dX10_carry_34 : decode cX10_carry 34 = .ok (.aload_n 0, 1) := by decide +kernel
theorem dX10_carry_35 : decode cX10_carry 35 = .ok (.getfield 117, 3) := by decide +kernel
theorem dX10_carry_38 : decode cX10_carry 38 = .ok (.aload 6, 2) := by decide +kernel
theorem dX10_carry_40 : decode cX10_carry 40 = .ok (.getfield 110, 3) := by decide +kernel
theorem dX10_carry_43 : decode cX10_carry 43 = .ok (.iadd, 1) := by decide +kernel
theorem dX10_carry_44 : decode cX10_carry 44 = .ok (.iload 4, 2) := by decide +kernel
theorem dX10_carry_46 : decode cX10_carry 46 = .ok (.if_icmp .le 6, 3) := by decide +kernel
theorem dX10_carry_49 : decode cX10_carry 49 = .ok (.goto 16, 3) := by decide +kernel
theorem dX10_carry_52 : decode cX10_carry 52 = .ok (.aload_n 0, 1) := by decide +kernel
theorem dX10_carry_53 : decode cX10_carry 53 = .ok (.aload_n 1, 1) := by decide +kernel
theorem dX10_carry_54 : decode cX10_carry 54 = .ok (.aload 6, 2) := by decide +kernel
theorem dX10_carry_56 : decode cX10_carry 56 = .ok (.invokevirtual 139, 3) := by decide +kernel
theorem dX10_carry_59 : decode cX10_carry 59 = .ok (.iinc 5 1, 3) := by decide +kernel
theorem dX10_carry_62 : decode cX10_carry 62 = .ok (.goto (-51), 3) := by decide +kernel
theorem dX10_carry_65 : decode cX10_carry 65 = .ok (.return_, 1) := by decide +kernel
set_option maxRecDepth 20000 in
theorem ggX10_risky_X10_comesIn : GoodIn wsX10_risky wsX10_comesIn := goodIn_r _ [8, 9, 10, 11, 12, 13, 14, 15, 16, 17, 18, 19, 20, 21, 22, 23, 24, 25, 26, 27, 28, 29, 30, 31, 32, 79, 80, 81, 82, 83, 84, 85, 86, 87, 88, 89, 90, 91, 92, 93, 94, 95, 96, 97, 98, 99, 100, 101, 102, 103, 104, 105, 106, 107, 108, 109, 110, 111, 112, 113, 114, 115, 116, 117, 118, 119, 120, 121, 122] (by decide +kernel) (by decide +kernel)
set_option maxRecDepth 20000 in
theorem gX10_risky_X10_comesIn : GoodIn wsX10_risky (wsV RX10 78 RX10 yX10_comesIn wsX10_comesIn) := goodIn_app (goodIn_of _ (by decide +kernel)) ggX10_risky_X10_comesIn
set_option maxRecDepth 20000 in
theorem ggX10_risky_X10_look : GoodIn wsX10_risky wsX10_look := goodIn_r _ [36, 2, 3, 37, 79, 80, 81, 82, 83, 84, 85, 86, 87, 88, 89, 90, 91, 92, 93, 94, 95, 96, 97, 98, 99, 100, 101, 102, 103, 104, 105, 106, 107, 108, 109, 110, 111, 112, 113, 114, 115, 116, 117, 118, 119, 120, 121, 122] (by decide +kernel) (by decide +kernel)
set_option maxRecDepth 20000 in
theorem gX10_risky_X10_look : GoodIn wsX10_risky (wsV RX10 143 RX10 yX10_look wsX10_look) := goodIn_app (goodIn_of _ (by decide +kernel)) ggX10_risky_X10_look
set_option maxRecDepth 20000 in
theorem ggX10_risky_X4_lost : GoodIn wsX10_risky wsX4_lost := goodIn_r _ [42, 43, 44, 45, 46, 47, 48, 41, 49, 50, 51, 52, 53, 54, 55, 123, 124, 125, 126, 127, 128, 129, 130] (by decide +kernel) (by decide +kernel)
set_option maxRecDepth 20000 in
theorem gX10_risky_X4_lost : GoodIn wsX10_risky (wsV RX10 147 RX4 yX4_lost wsX4_lost) := goodIn_app (goodIn_of _ (by decide +kernel)) ggX10_risky_X4_lost
set_option maxRecDepth 20000 in
theorem ggX10_risky_X2_slops : GoodIn wsX10_risky wsX2_slops := goodIn_r _ [60] (by decide +kernel) (by decide +kernel)
set_option maxRecDepth 20000 in
theorem gX10_risky_X2_slops_u151X0 : GoodIn wsX10_risky (va_wsU RX10 151 RX0 "BarrowPlank$Man" ⟨"BarrowPlank$Man", "slops", "(II)I"⟩ yX2_slops wsX2_slops) := goodIn_app (goodIn_of _ (by decide +kernel)) ggX10_risky_X2_slops
set_option maxRecDepth 20000 in
theorem ggX10_risky_X1_slops : GoodIn wsX10_risky wsX1_slops := goodIn_r _ [65, 66, 67, 95, 96, 97, 98, 99, 100, 101, 102, 103, 104, 105, 106, 107, 108, 109, 110, 111, 112, 113, 114, 115, 116, 117, 118, 119, 120, 121, 122] (by decide +kernel) (by decide +kernel)
set_option maxRecDepth 20000 in
theorem gX10_risky_X1_slops_u151X1 : GoodIn wsX10_risky (va_wsO RX10 151 RX1 "BarrowPlank$Man" ⟨"BarrowPlank$Man", "slops", "(II)I"⟩ yX1_slops wsX1_slops) := goodIn_app (goodIn_of _ (by decide +kernel)) ggX10_risky_X1_slops
set_option maxRecDepth 20000 in
theorem gX10_risky_X2_slops : GoodIn wsX10_risky (wsV RX10 151 RX2 yX2_slops wsX2_slops) := goodIn_app (goodIn_of _ (by decide +kernel)) ggX10_risky_X2_slops
set_option maxRecDepth 20000 in
theorem gX10_risky_X2_slops_u151X3 : GoodIn wsX10_risky (va_wsU RX10 151 RX3 "BarrowPlank$Man" ⟨"BarrowPlank$Man", "slops", "(II)I"⟩ yX2_slops wsX2_slops) := goodIn_app (goodIn_of _ (by decide +kernel)) ggX10_risky_X2_slops
set_option maxRecDepth 20000 in
theorem gX10_risky_X2_slops_u151X6 : GoodIn wsX10_risky (va_wsU RX10 151 RX6 "BarrowPlank$Man" ⟨"BarrowPlank$Man", "slops", "(II)I"⟩ yX2_slops wsX2_slops) := goodIn_app (goodIn_of _ (by decide +kernel)) ggX10_risky_X2_slops
set_option maxRecDepth 20000 in
theorem ggX10_risky_X7_slops : GoodIn wsX10_risky wsX7_slops := goodIn_r _ [75, 76, 77, 95, 96, 97, 98, 99, 100, 101, 102, 103, 104, 105, 106, 107, 108, 109, 110, 111, 112, 113, 114, 115, 116, 117, 118, 119, 120, 121, 122] (by decide +kernel) (by decide +kernel)
set_option maxRecDepth 20000 in
theorem gX10_risky_X7_slops_u151X7 : GoodIn wsX10_risky (va_wsO RX10 151 RX7 "BarrowPlank$Man" ⟨"BarrowPlank$Man", "slops", "(II)I"⟩ yX7_slops wsX7_slops) := goodIn_app (goodIn_of _ (by decide +kernel)) ggX10_risky_X7_slops
set_option maxRecDepth 20000 in
theorem gX10_risky_X2_slops_u151X9 : GoodIn wsX10_risky (va_wsU RX10 151 RX9 "BarrowPlank$Man" ⟨"BarrowPlank$Man", "slops", "(II)I"⟩ yX2_slops wsX2_slops) := goodIn_app (goodIn_of _ (by decide +kernel)) ggX10_risky_X2_slops
theorem dX10_risky_0 : decode cX10_risky 0 = .ok (.aload_n 0, 1) := by decide +kernel
theorem dX10_risky_1 : decode cX10_risky 1 = .ok (.aload_n 1, 1) := by decide +kernel
theorem dX10_risky_2 : decode cX10_risky 2 = .ok (.iload_n 2, 1) := by decide +kernel
theorem dX10_risky_3 : decode cX10_risky 3 = .ok (.invokevirtual 78, 3) := by decide +kernel
theorem dX10_risky_6 : decode cX10_risky 6 = .ok (.istore_n 3, 1) := by decide +kernel
theorem dX10_risky_7 : decode cX10_risky 7 = .ok (.iconst 0, 1) := by decide +kernel
theorem dX10_risky_8 : decode cX10_risky 8 = .ok (.istore 4, 2) := by decide +kernel
theorem dX10_risky_10 : decode cX10_risky 10 = .ok (.iconst 0, 1) := by decide +kernel
theorem dX10_risky_11 : decode cX10_risky 11 = .ok (.istore 5, 2) := by decide +kernel
theorem dX10_risky_13 : decode cX10_risky 13 = .ok (.iload 5, 2) := by decide +kernel
theorem dX10_risky_15 : decode cX10_risky 15 = .ok (.bipush 10, 2) := by decide +kernel
theorem dX10_risky_17 : decode cX10_risky 17 = .ok (.if_icmp .ge 54, 3) := by decide +kernel
theorem dX10_risky_20 : decode cX10_risky 20 = .ok (.iload_n 3, 1) := by decide +kernel
theorem dX10_risky_21 : decode cX10_risky 21 = .ok (.ifCond .le 50, 3) := by decide +kernel
theorem dX10_risky_24 : decode cX10_risky 24 = .ok (.aload_n 0, 1) := by decide +kernel
theorem dX10_risky_25 : decode cX10_risky 25 = .ok (.aload_n 1, 1) := by decide +kernel
theorem dX10_risky_26 : decode cX10_risky 26 = .ok (.iload 5, 2) := by decide +kernel
theorem dX10_risky_28 : decode cX10_risky 28 = .ok (.iload_n 3, 1) := by decide +kernel
theorem dX10_risky_29 : decode cX10_risky 29 = .ok (.invokevirtual 143, 3) := by decide +kernel
theorem dX10_risky_32 : decode cX10_risky 32 = .ok (.aload_n 0, 1) := by decide +kernel
theorem dX10_risky_33 : decode cX10_risky 33 = .ok (.getfield 48, 3) := by decide +kernel
theorem dX10_risky_36 : decode cX10_risky 36 = .ok (.aload_n 0, 1) := by decide +kernel
theorem dX10_risky_37 : decode cX10_risky 37 = .ok (.getfield 45, 3) := by decide +kernel
theorem dX10_risky_40 : decode cX10_risky 40 = .ok (.invokevirtual 147, 3) := by decide +kernel
theorem dX10_risky_43 : decode cX10_risky 43 = .ok (.aload_n 1, 1) := by decide +kernel
theorem dX10_risky_44 : decode cX10_risky 44 = .ok (.iload 5, 2) := by decide +kernel
theorem dX10_risky_46 : decode cX10_risky 46 = .ok (.aload_n 0, 1) := by decide +kernel
theorem dX10_risky_47 : decode cX10_risky 47 = .ok (.getfield 11, 3) := by decide +kernel
theorem dX10_risky_50 : decode cX10_risky 50 = .ok (.iconst 2, 1) := by decide +kernel
theorem dX10_risky_51 : decode cX10_risky 51 = .ok (.aaload, 1) := by decide +kernel
theorem dX10_risky_52 : decode cX10_risky 52 = .ok (.iload 5, 2) := by decide +kernel
theorem dX10_risky_54 : decode cX10_risky 54 = .ok (.iaload, 1) := by decide +kernel
theorem dX10_risky_55 : decode cX10_risky 55 = .ok (.invokevirtual 151, 3) := by decide +kernel
theorem dX10_risky_58 : decode cX10_risky 58 = .ok (.iadd, 1) := by decide +kernel
theorem dX10_risky_59 : decode cX10_risky 59 = .ok (.ifCond .le 6, 3) := by decide +kernel
theorem dX10_risky_62 : decode cX10_risky 62 = .ok (.iinc 4 1, 3) := by decide +kernel
theorem dX10_risky_65 : decode cX10_risky 65 = .ok (.iinc 5 1, 3) := by decide +kernel
theorem dX10_risky_68 : decode cX10_risky 68 = .ok (.goto (-55), 3) := by decide +kernel
theorem dX10_risky_71 : decode cX10_risky 71 = .ok (.iload 4, 2) := by decide +kernel
theorem dX10_risky_73 : decode cX10_risky 73 = .ok (.ireturn, 1) := by decide +kernel
set_option maxRecDepth 20000 in
theorem ggX10_take_X10_forget : GoodIn wsX10_take wsX10_forget := goodIn_r _ [19, 20, 21, 22, 23, 24, 25, 26, 27, 28, 29, 30, 31, 32, 33, 34, 35, 36, 37, 38, 39, 40, 41, 42, 43] (by decide +kernel) (by decide +kernel)
set_option maxRecDepth 20000 in
theorem gX10_take_X10_forget : GoodIn wsX10_take (wsV RX10 62 RX10 yX10_forget wsX10_forget) := goodIn_app (goodIn_of _ (by decide +kernel)) ggX10_take_X10_forget
theorem dX10_take_0 : decode cX10_take 0 = .ok (.iconst 0, 1) := by decide +kernel
theorem dX10_take_1 : decode cX10_take 1 = .ok (.istore_n 2, 1) := by decide +kernel
theorem dX10_take_2 : decode cX10_take 2 = .ok (.iload_n 2, 1) := by decide +kernel
theorem dX10_take_3 : decode cX10_take 3 = .ok (.iconst 2, 1) := by decide +kernel
theorem dX10_take_4 : decode cX10_take 4 = .ok (.if_icmp .gt 28, 3) := by decide +kernel
theorem dX10_take_7 : decode cX10_take 7 = .ok (.aload_n 1, 1) := by decide +kernel
theorem dX10_take_8 : decode cX10_take 8 = .ok (.getfield 11, 3) := by decide +kernel
theorem dX10_take_11 : decode cX10_take 11 = .ok (.iload_n 2, 1) := by decide +kernel
theorem dX10_take_12 : decode cX10_take 12 = .ok (.aaload, 1) := by decide +kernel
theorem dX10_take_13 : decode cX10_take 13 = .ok (.iconst 0, 1) := by decide +kernel
theorem dX10_take_14 : decode cX10_take 14 = .ok (.aload_n 0, 1) := by decide +kernel
theorem dX10_take_15 : decode cX10_take 15 = .ok (.getfield 11, 3) := by decide +kernel
theorem dX10_take_18 : decode cX10_take 18 = .ok (.iload_n 2, 1) := by decide +kernel
theorem dX10_take_19 : decode cX10_take 19 = .ok (.aaload, 1) := by decide +kernel
theorem dX10_take_20 : decode cX10_take 20 = .ok (.iconst 0, 1) := by decide +kernel
theorem dX10_take_21 : decode cX10_take 21 = .ok (.bipush 10, 2) := by decide +kernel
theorem dX10_take_23 : decode cX10_take 23 = .ok (.invokestatic 154, 3) := by decide +kernel
theorem dX10_take_26 : decode cX10_take 26 = .ok (.iinc 2 1, 3) := by decide +kernel
theorem dX10_take_29 : decode cX10_take 29 = .ok (.goto (-27), 3) := by decide +kernel
theorem dX10_take_32 : decode cX10_take 32 = .ok (.iconst 0, 1) := by decide +kernel
theorem dX10_take_33 : decode cX10_take 33 = .ok (.istore_n 2, 1) := by decide +kernel
theorem dX10_take_34 : decode cX10_take 34 = .ok (.iload_n 2, 1) := by decide +kernel
theorem dX10_take_35 : decode cX10_take 35 = .ok (.iconst 4, 1) := by decide +kernel
theorem dX10_take_36 : decode cX10_take 36 = .ok (.if_icmp .ge 33, 3) := by decide +kernel
theorem dX10_take_39 : decode cX10_take 39 = .ok (.aload_n 0, 1) := by decide +kernel
theorem dX10_take_40 : decode cX10_take 40 = .ok (.getfield 18, 3) := by decide +kernel
theorem dX10_take_43 : decode cX10_take 43 = .ok (.iload_n 2, 1) := by decide +kernel
theorem dX10_take_44 : decode cX10_take 44 = .ok (.aload_n 1, 1) := by decide +kernel
theorem dX10_take_45 : decode cX10_take 45 = .ok (.getfield 18, 3) := by decide +kernel
theorem dX10_take_48 : decode cX10_take 48 = .ok (.iload_n 2, 1) := by decide +kernel
theorem dX10_take_49 : decode cX10_take 49 = .ok (.aaload, 1) := by decide +kernel
theorem dX10_take_50 : decode cX10_take 50 = .ok (.aastore, 1) := by decide +kernel
theorem dX10_take_51 : decode cX10_take 51 = .ok (.aload_n 0, 1) := by decide +kernel
theorem dX10_take_52 : decode cX10_take 52 = .ok (.getfield 22, 3) := by decide +kernel
theorem dX10_take_55 : decode cX10_take 55 = .ok (.iload_n 2, 1) := by decide +kernel
theorem dX10_take_56 : decode cX10_take 56 = .ok (.aload_n 1, 1) := by decide +kernel
theorem dX10_take_57 : decode cX10_take 57 = .ok (.getfield 22, 3) := by decide +kernel
theorem dX10_take_60 : decode cX10_take 60 = .ok (.iload_n 2, 1) := by decide +kernel
theorem dX10_take_61 : decode cX10_take 61 = .ok (.iaload, 1) := by decide +kernel
theorem dX10_take_62 : decode cX10_take 62 = .ok (.iastore, 1) := by decide +kernel
theorem dX10_take_63 : decode cX10_take 63 = .ok (.iinc 2 1, 3) := by decide +kernel
theorem dX10_take_66 : decode cX10_take 66 = .ok (.goto (-32), 3) := by decide +kernel
theorem dX10_take_69 : decode cX10_take 69 = .ok (.aload_n 0, 1) := by decide +kernel
theorem dX10_take_70 : decode cX10_take 70 = .ok (.aload_n 1, 1) := by decide +kernel
theorem dX10_take_71 : decode cX10_take 71 = .ok (.getfield 53, 3) := by decide +kernel
theorem dX10_take_74 : decode cX10_take 74 = .ok (.putfield 53, 3) := by decide +kernel
theorem dX10_take_77 : decode cX10_take 77 = .ok (.aload_n 0, 1) := by decide +kernel
theorem dX10_take_78 : decode cX10_take 78 = .ok (.aload_n 1, 1) := by decide +kernel
theorem dX10_take_79 : decode cX10_take 79 = .ok (.getfield 33, 3) := by decide +kernel
theorem dX10_take_82 : decode cX10_take 82 = .ok (.putfield 33, 3) := by decide +kernel
theorem dX10_take_85 : decode cX10_take 85 = .ok (.aload_n 0, 1) := by decide +kernel
theorem dX10_take_86 : decode cX10_take 86 = .ok (.aload_n 1, 1) := by decide +kernel
theorem dX10_take_87 : decode cX10_take 87 = .ok (.getfield 113, 3) := by decide +kernel
theorem dX10_take_90 : decode cX10_take 90 = .ok (.putfield 113, 3) := by decide +kernel
theorem dX10_take_93 : decode cX10_take 93 = .ok (.aload_n 0, 1) := by decide +kernel
theorem dX10_take_94 : decode cX10_take 94 = .ok (.aload_n 1, 1) := by decide +kernel
theorem dX10_take_95 : decode cX10_take 95 = .ok (.getfield 117, 3) := by decide +kernel
theorem dX10_take_98 : decode cX10_take 98 = .ok (.putfield 117, 3) := by decide +kernel
theorem dX10_take_101 : decode cX10_take 101 = .ok (.aload_n 0, 1) := by decide +kernel
theorem dX10_take_102 : decode cX10_take 102 = .ok (.aload_n 1, 1) := by decide +kernel
theorem dX10_take_103 : decode cX10_take 103 = .ok (.getfield 129, 3) := by decide +kernel
theorem dX10_take_106 : decode cX10_take 106 = .ok (.putfield 129, 3) := by decide +kernel
theorem dX10_take_109 : decode cX10_take 109 = .ok (.aload_n 0, 1) := by decide +kernel
theorem dX10_take_110 : decode cX10_take 110 = .ok (.aload_n 1, 1) := by decide +kernel
theorem dX10_take_111 : decode cX10_take 111 = .ok (.getfield 48, 3) := by decide +kernel
theorem dX10_take_114 : decode cX10_take 114 = .ok (.putfield 48, 3) := by decide +kernel
theorem dX10_take_117 : decode cX10_take 117 = .ok (.aload_n 0, 1) := by decide +kernel
theorem dX10_take_118 : decode cX10_take 118 = .ok (.aload_n 1, 1) := by decide +kernel
theorem dX10_take_119 : decode cX10_take 119 = .ok (.getfield 59, 3) := by decide +kernel
theorem dX10_take_122 : decode cX10_take 122 = .ok (.putfield 59, 3) := by decide +kernel
theorem dX10_take_125 : decode cX10_take 125 = .ok (.aload_n 0, 1) := by decide +kernel
theorem dX10_take_126 : decode cX10_take 126 = .ok (.invokevirtual 62, 3) := by decide +kernel
theorem dX10_take_129 : decode cX10_take 129 = .ok (.return_, 1) := by decide +kernel
set_option maxRecDepth 20000 in
theorem ggX10_takeAll_X10_take : GoodIn wsX10_takeAll wsX10_take := goodIn_r _ [13, 14, 2, 3, 4, 5, 15, 16, 17, 18, 19, 20, 21, 22, 23, 24, 25, 26, 12, 27, 28, 29, 30, 31, 32, 33, 34, 35, 36, 37, 38, 39, 40, 41, 42, 43, 44, 45, 46, 47, 48, 49, 50, 51] (by decide +kernel) (by decide +kernel)
set_option maxRecDepth 20000 in
theorem gX10_takeAll_X10_take : GoodIn wsX10_takeAll (wsV RX10 160 RX10 yX10_take wsX10_take) := goodIn_app (goodIn_of _ (by decide +kernel)) ggX10_takeAll_X10_take
theorem dX10_takeAll_0 : decode cX10_takeAll 0 = .ok (.aload_n 0, 1) := by decide +kernel
theorem dX10_takeAll_1 : decode cX10_takeAll 1 = .ok (.aload_n 1, 1) := by decide +kernel
theorem dX10_takeAll_2 : decode cX10_takeAll 2 = .ok (.invokevirtual 160, 3) := by decide +kernel
theorem dX10_takeAll_5 : decode cX10_takeAll 5 = .ok (.aload_n 1, 1) := by decide +kernel
theorem dX10_takeAll_6 : decode cX10_takeAll 6 = .ok (.getfield 26, 3) := by decide +kernel
theorem dX10_takeAll_9 : decode cX10_takeAll 9 = .ok (.iconst 0, 1) := by decide +kernel
theorem dX10_takeAll_10 : decode cX10_takeAll 10 = .ok (.aload_n 0, 1) := by decide +kernel
theorem dX10_takeAll_11 : decode cX10_takeAll 11 = .ok (.getfield 26, 3) := by decide +kernel
theorem dX10_takeAll_14 : decode cX10_takeAll 14 = .ok (.iconst 0, 1) := by decide +kernel
theorem dX10_takeAll_15 : decode cX10_takeAll 15 = .ok (.bipush 100, 2) := by decide +kernel
theorem dX10_takeAll_17 : decode cX10_takeAll 17 = .ok (.invokestatic 154, 3) := by decide +kernel
theorem dX10_takeAll_20 : decode cX10_takeAll 20 = .ok (.aload_n 1, 1) := by decide +kernel
theorem dX10_takeAll_21 : decode cX10_takeAll 21 = .ok (.getfield 30, 3) := by decide +kernel
theorem dX10_takeAll_24 : decode cX10_takeAll 24 = .ok (.iconst 0, 1) := by decide +kernel
theorem dX10_takeAll_25 : decode cX10_takeAll 25 = .ok (.aload_n 0, 1) := by decide +kernel
theorem dX10_takeAll_26 : decode cX10_takeAll 26 = .ok (.getfield 30, 3) := by decide +kernel
theorem dX10_takeAll_29 : decode cX10_takeAll 29 = .ok (.iconst 0, 1) := by decide +kernel
theorem dX10_takeAll_30 : decode cX10_takeAll 30 = .ok (.bipush 12, 2) := by decide +kernel
theorem dX10_takeAll_32 : decode cX10_takeAll 32 = .ok (.invokestatic 154, 3) := by decide +kernel
theorem dX10_takeAll_35 : decode cX10_takeAll 35 = .ok (.aload_n 0, 1) := by decide +kernel
theorem dX10_takeAll_36 : decode cX10_takeAll 36 = .ok (.aload_n 1, 1) := by decide +kernel
theorem dX10_takeAll_37 : decode cX10_takeAll 37 = .ok (.getfield 164, 3) := by decide +kernel
theorem dX10_takeAll_40 : decode cX10_takeAll 40 = .ok (.putfield 164, 3) := by decide +kernel
theorem dX10_takeAll_43 : decode cX10_takeAll 43 = .ok (.aload_n 0, 1) := by decide +kernel
theorem dX10_takeAll_44 : decode cX10_takeAll 44 = .ok (.aload_n 1, 1) := by decide +kernel
theorem dX10_takeAll_45 : decode cX10_takeAll 45 = .ok (.getfield 167, 3) := by decide +kernel
theorem dX10_takeAll_48 : decode cX10_takeAll 48 = .ok (.putfield 167, 3) := by decide +kernel
theorem dX10_takeAll_51 : decode cX10_takeAll 51 = .ok (.return_, 1) := by decide +kernel
set_option maxRecDepth 20000 in
theorem ggX10_comesIn_X0_heaps : GoodIn wsX10_comesIn wsX0_heaps := goodIn_r _ [12, 13, 14, 41, 42, 43, 44, 45, 46, 47, 48, 49, 50, 51, 52, 53, 54, 55, 56, 57, 58, 59, 60, 61, 62, 63, 64, 65, 66, 67, 68] (by decide +kernel) (by decide +kernel)
set_option maxRecDepth 20000 in
theorem gX10_comesIn_X0_heaps_u170X0 : GoodIn wsX10_comesIn (va_wsO RX10 170 RX0 "BarrowPlank$Man" ⟨"BarrowPlank$Man", "heaps", "()I"⟩ yX0_heaps wsX0_heaps) := goodIn_app (goodIn_of _ (by decide +kernel)) ggX10_comesIn_X0_heaps
set_option maxRecDepth 20000 in
theorem gX10_comesIn_X0_heaps_u170X1 : GoodIn wsX10_comesIn (va_wsO RX10 170 RX1 "BarrowPlank$Man" ⟨"BarrowPlank$Man", "heaps", "()I"⟩ yX0_heaps wsX0_heaps) := goodIn_app (goodIn_of _ (by decide +kernel)) ggX10_comesIn_X0_heaps
set_option maxRecDepth 20000 in
theorem ggX10_comesIn_X2_heaps : GoodIn wsX10_comesIn wsX2_heaps := goodIn_r _ [15] (by decide +kernel) (by decide +kernel)
set_option maxRecDepth 20000 in
theorem gX10_comesIn_X2_heaps : GoodIn wsX10_comesIn (wsV RX10 170 RX2 yX2_heaps wsX2_heaps) := goodIn_app (goodIn_of _ (by decide +kernel)) ggX10_comesIn_X2_heaps
set_option maxRecDepth 20000 in
theorem gX10_comesIn_X2_heaps_u170X3 : GoodIn wsX10_comesIn (va_wsU RX10 170 RX3 "BarrowPlank$Man" ⟨"BarrowPlank$Man", "heaps", "()I"⟩ yX2_heaps wsX2_heaps) := goodIn_app (goodIn_of _ (by decide +kernel)) ggX10_comesIn_X2_heaps
set_option maxRecDepth 20000 in
theorem gX10_comesIn_X2_heaps_u170X6 : GoodIn wsX10_comesIn (va_wsU RX10 170 RX6 "BarrowPlank$Man" ⟨"BarrowPlank$Man", "heaps", "()I"⟩ yX2_heaps wsX2_heaps) := goodIn_app (goodIn_of _ (by decide +kernel)) ggX10_comesIn_X2_heaps
set_option maxRecDepth 20000 in
theorem gX10_comesIn_X2_heaps_u170X7 : GoodIn wsX10_comesIn (va_wsU RX10 170 RX7 "BarrowPlank$Man" ⟨"BarrowPlank$Man", "heaps", "()I"⟩ yX2_heaps wsX2_heaps) := goodIn_app (goodIn_of _ (by decide +kernel)) ggX10_comesIn_X2_heaps
set_option maxRecDepth 20000 in
theorem gX10_comesIn_X2_heaps_u170X9 : GoodIn wsX10_comesIn (va_wsU RX10 170 RX9 "BarrowPlank$Man" ⟨"BarrowPlank$Man", "heaps", "()I"⟩ yX2_heaps wsX2_heaps) := goodIn_app (goodIn_of _ (by decide +kernel)) ggX10_comesIn_X2_heaps
theorem dX10_comesIn_0 : decode cX10_comesIn 0 = .ok (.iload_n 2, 1) := by decide +kernel
theorem dX10_comesIn_1 : decode cX10_comesIn 1 = .ok (.aload_n 1, 1) := by decide +kernel
theorem dX10_comesIn_2 : decode cX10_comesIn 2 = .ok (.invokevirtual 170, 3) := by decide +kernel
theorem dX10_comesIn_5 : decode cX10_comesIn 5 = .ok (.iadd, 1) := by decide +kernel
theorem dX10_comesIn_6 : decode cX10_comesIn 6 = .ok (.bipush 20, 2) := by decide +kernel
theorem dX10_comesIn_8 : decode cX10_comesIn 8 = .ok (.invokestatic 69, 3) := by decide +kernel
theorem dX10_comesIn_11 : decode cX10_comesIn 11 = .ok (.aload_n 0, 1) := by decide +kernel
theorem dX10_comesIn_12 : decode cX10_comesIn 12 = .ok (.getfield 33, 3) := by decide +kernel
theorem dX10_comesIn_15 : decode cX10_comesIn 15 = .ok (.invokestatic 69, 3) := by decide +kernel
theorem dX10_comesIn_18 : decode cX10_comesIn 18 = .ok (.ireturn, 1) := by decide +kernel
set_option maxRecDepth 20000 in
theorem ggX10_walk_X10_look : GoodIn wsX10_walk wsX10_look := goodIn_r _ [19, 3, 1, 20, 104, 105, 106, 107, 108, 109, 110, 111, 112, 113, 114, 115, 116, 117, 118, 119, 126, 127, 128, 129, 130, 131, 132, 133, 134, 135, 136, 137, 138, 139, 140, 141, 142, 143, 144, 145, 146, 147, 148, 149, 150, 151, 152, 153] (by decide +kernel) (by decide +kernel)
set_option maxRecDepth 20000 in
theorem gX10_walk_X10_look : GoodIn wsX10_walk (wsV RX10 143 RX10 yX10_look wsX10_look) := goodIn_app (goodIn_of _ (by decide +kernel)) ggX10_walk_X10_look
set_option maxRecDepth 20000 in
theorem ggX10_walk_X4_slower : GoodIn wsX10_walk wsX4_slower := goodIn_r _ [25, 26, 27, 28, 29, 30, 31, 24, 32, 33, 34, 35, 36, 37, 38, 154, 155, 156, 157, 158, 159, 160, 161] (by decide +kernel) (by decide +kernel)
set_option maxRecDepth 20000 in
theorem gX10_walk_X4_slower : GoodIn wsX10_walk (wsV RX10 173 RX4 yX4_slower wsX4_slower) := goodIn_app (goodIn_of _ (by decide +kernel)) ggX10_walk_X4_slower
set_option maxRecDepth 20000 in
theorem ggX10_walk_X2_slips : GoodIn wsX10_walk wsX2_slips := goodIn_r _ [44] (by decide +kernel) (by decide +kernel)
set_option maxRecDepth 20000 in
theorem gX10_walk_X2_slips_u176X0 : GoodIn wsX10_walk (va_wsU RX10 176 RX0 "BarrowPlank$Man" ⟨"BarrowPlank$Man", "slips", "(I)I"⟩ yX2_slips wsX2_slips) := goodIn_app (goodIn_of _ (by decide +kernel)) ggX10_walk_X2_slips
set_option maxRecDepth 20000 in
theorem gX10_walk_X2_slips_u176X1 : GoodIn wsX10_walk (va_wsU RX10 176 RX1 "BarrowPlank$Man" ⟨"BarrowPlank$Man", "slips", "(I)I"⟩ yX2_slips wsX2_slips) := goodIn_app (goodIn_of _ (by decide +kernel)) ggX10_walk_X2_slips
set_option maxRecDepth 20000 in
theorem gX10_walk_X2_slips : GoodIn wsX10_walk (wsV RX10 176 RX2 yX2_slips wsX2_slips) := goodIn_app (goodIn_of _ (by decide +kernel)) ggX10_walk_X2_slips
set_option maxRecDepth 20000 in
theorem ggX10_walk_X3_slips : GoodIn wsX10_walk wsX3_slips := goodIn_r _ [52, 53, 54, 55, 51, 56, 57, 58, 126, 127, 128, 129, 130, 131, 132, 133, 134, 135, 136, 137, 138, 139, 140, 141, 142, 143, 144, 145, 146, 147, 148, 149, 150, 151, 152, 153] (by decide +kernel) (by decide +kernel)
set_option maxRecDepth 20000 in
theorem gX10_walk_X3_slips_u176X3 : GoodIn wsX10_walk (va_wsO RX10 176 RX3 "BarrowPlank$Man" ⟨"BarrowPlank$Man", "slips", "(I)I"⟩ yX3_slips wsX3_slips) := goodIn_app (goodIn_of _ (by decide +kernel)) ggX10_walk_X3_slips
set_option maxRecDepth 20000 in
theorem gX10_walk_X2_slips_u176X6 : GoodIn wsX10_walk (va_wsU RX10 176 RX6 "BarrowPlank$Man" ⟨"BarrowPlank$Man", "slips", "(I)I"⟩ yX2_slips wsX2_slips) := goodIn_app (goodIn_of _ (by decide +kernel)) ggX10_walk_X2_slips
set_option maxRecDepth 20000 in
theorem gX10_walk_X2_slips_u176X7 : GoodIn wsX10_walk (va_wsU RX10 176 RX7 "BarrowPlank$Man" ⟨"BarrowPlank$Man", "slips", "(I)I"⟩ yX2_slips wsX2_slips) := goodIn_app (goodIn_of _ (by decide +kernel)) ggX10_walk_X2_slips
set_option maxRecDepth 20000 in
theorem gX10_walk_X2_slips_u176X9 : GoodIn wsX10_walk (va_wsU RX10 176 RX9 "BarrowPlank$Man" ⟨"BarrowPlank$Man", "slips", "(I)I"⟩ yX2_slips wsX2_slips) := goodIn_app (goodIn_of _ (by decide +kernel)) ggX10_walk_X2_slips
set_option maxRecDepth 20000 in
theorem ggX10_walk_X4_lost : GoodIn wsX10_walk wsX4_lost := goodIn_r _ [65, 26, 27, 28, 29, 30, 31, 24, 32, 33, 34, 35, 36, 37, 38, 154, 155, 156, 157, 158, 159, 160, 161] (by decide +kernel) (by decide +kernel)
set_option maxRecDepth 20000 in
theorem gX10_walk_X4_lost : GoodIn wsX10_walk (wsV RX10 147 RX4 yX4_lost wsX4_lost) := goodIn_app (goodIn_of _ (by decide +kernel)) ggX10_walk_X4_lost
set_option maxRecDepth 20000 in
theorem ggX10_walk_X2_slops : GoodIn wsX10_walk wsX2_slops := goodIn_r _ [70] (by decide +kernel) (by decide +kernel)
set_option maxRecDepth 20000 in
theorem gX10_walk_X2_slops_u151X0 : GoodIn wsX10_walk (va_wsU RX10 151 RX0 "BarrowPlank$Man" ⟨"BarrowPlank$Man", "slops", "(II)I"⟩ yX2_slops wsX2_slops) := goodIn_app (goodIn_of _ (by decide +kernel)) ggX10_walk_X2_slops
set_option maxRecDepth 20000 in
theorem ggX10_walk_X1_slops : GoodIn wsX10_walk wsX1_slops := goodIn_r _ [75, 76, 77, 126, 127, 128, 129, 130, 131, 132, 133, 134, 135, 136, 137, 138, 139, 140, 141, 142, 143, 144, 145, 146, 147, 148, 149, 150, 151, 152, 153] (by decide +kernel) (by decide +kernel)
set_option maxRecDepth 20000 in
theorem gX10_walk_X1_slops_u151X1 : GoodIn wsX10_walk (va_wsO RX10 151 RX1 "BarrowPlank$Man" ⟨"BarrowPlank$Man", "slops", "(II)I"⟩ yX1_slops wsX1_slops) := goodIn_app (goodIn_of _ (by decide +kernel)) ggX10_walk_X1_slops
set_option maxRecDepth 20000 in
theorem gX10_walk_X2_slops : GoodIn wsX10_walk (wsV RX10 151 RX2 yX2_slops wsX2_slops) := goodIn_app (goodIn_of _ (by decide +kernel)) ggX10_walk_X2_slops
set_option maxRecDepth 20000 in
theorem gX10_walk_X2_slops_u151X3 : GoodIn wsX10_walk (va_wsU RX10 151 RX3 "BarrowPlank$Man" ⟨"BarrowPlank$Man", "slops", "(II)I"⟩ yX2_slops wsX2_slops) := goodIn_app (goodIn_of _ (by decide +kernel)) ggX10_walk_X2_slops
set_option maxRecDepth 20000 in
theorem gX10_walk_X2_slops_u151X6 : GoodIn wsX10_walk (va_wsU RX10 151 RX6 "BarrowPlank$Man" ⟨"BarrowPlank$Man", "slops", "(II)I"⟩ yX2_slops wsX2_slops) := goodIn_app (goodIn_of _ (by decide +kernel)) ggX10_walk_X2_slops
set_option maxRecDepth 20000 in
theorem ggX10_walk_X7_slops : GoodIn wsX10_walk wsX7_slops := goodIn_r _ [85, 86, 87, 126, 127, 128, 129, 130, 131, 132, 133, 134, 135, 136, 137, 138, 139, 140, 141, 142, 143, 144, 145, 146, 147, 148, 149, 150, 151, 152, 153] (by decide +kernel) (by decide +kernel)
set_option maxRecDepth 20000 in
theorem gX10_walk_X7_slops_u151X7 : GoodIn wsX10_walk (va_wsO RX10 151 RX7 "BarrowPlank$Man" ⟨"BarrowPlank$Man", "slops", "(II)I"⟩ yX7_slops wsX7_slops) := goodIn_app (goodIn_of _ (by decide +kernel)) ggX10_walk_X7_slops
set_option maxRecDepth 20000 in
theorem gX10_walk_X2_slops_u151X9 : GoodIn wsX10_walk (va_wsU RX10 151 RX9 "BarrowPlank$Man" ⟨"BarrowPlank$Man", "slops", "(II)I"⟩ yX2_slops wsX2_slops) := goodIn_app (goodIn_of _ (by decide +kernel)) ggX10_walk_X2_slops
set_option maxRecDepth 20000 in
theorem ggX10_walk_X2_tips : GoodIn wsX10_walk wsX2_tips := goodIn_r _ [93] (by decide +kernel) (by decide +kernel)
set_option maxRecDepth 20000 in
theorem gX10_walk_X2_tips_u179X0 : GoodIn wsX10_walk (va_wsU RX10 179 RX0 "BarrowPlank$Man" ⟨"BarrowPlank$Man", "tips", "(II)I"⟩ yX2_tips wsX2_tips) := goodIn_app (goodIn_of _ (by decide +kernel)) ggX10_walk_X2_tips
set_option maxRecDepth 20000 in
theorem gX10_walk_X2_tips_u179X1 : GoodIn wsX10_walk (va_wsU RX10 179 RX1 "BarrowPlank$Man" ⟨"BarrowPlank$Man", "tips", "(II)I"⟩ yX2_tips wsX2_tips) := goodIn_app (goodIn_of _ (by decide +kernel)) ggX10_walk_X2_tips
set_option maxRecDepth 20000 in
theorem gX10_walk_X2_tips : GoodIn wsX10_walk (wsV RX10 179 RX2 yX2_tips wsX2_tips) := goodIn_app (goodIn_of _ (by decide +kernel)) ggX10_walk_X2_tips
set_option maxRecDepth 20000 in
theorem ggX10_walk_X3_tips : GoodIn wsX10_walk wsX3_tips := goodIn_r _ [100, 53, 54, 55, 51, 56, 57, 58, 126, 127, 128, 129, 130, 131, 132, 133, 134, 135, 136, 137, 138, 139, 140, 141, 142, 143, 144, 145, 146, 147, 148, 149, 150, 151, 152, 153] (by decide +kernel) (by decide +kernel)
set_option maxRecDepth 20000 in
theorem gX10_walk_X3_tips_u179X3 : GoodIn wsX10_walk (va_wsO RX10 179 RX3 "BarrowPlank$Man" ⟨"BarrowPlank$Man", "tips", "(II)I"⟩ yX3_tips wsX3_tips) := goodIn_app (goodIn_of _ (by decide +kernel)) ggX10_walk_X3_tips
set_option maxRecDepth 20000 in
theorem gX10_walk_X2_tips_u179X6 : GoodIn wsX10_walk (va_wsU RX10 179 RX6 "BarrowPlank$Man" ⟨"BarrowPlank$Man", "tips", "(II)I"⟩ yX2_tips wsX2_tips) := goodIn_app (goodIn_of _ (by decide +kernel)) ggX10_walk_X2_tips
set_option maxRecDepth 20000 in
theorem gX10_walk_X2_tips_u179X7 : GoodIn wsX10_walk (va_wsU RX10 179 RX7 "BarrowPlank$Man" ⟨"BarrowPlank$Man", "tips", "(II)I"⟩ yX2_tips wsX2_tips) := goodIn_app (goodIn_of _ (by decide +kernel)) ggX10_walk_X2_tips
set_option maxRecDepth 20000 in
theorem gX10_walk_X2_tips_u179X9 : GoodIn wsX10_walk (va_wsU RX10 179 RX9 "BarrowPlank$Man" ⟨"BarrowPlank$Man", "tips", "(II)I"⟩ yX2_tips wsX2_tips) := goodIn_app (goodIn_of _ (by decide +kernel)) ggX10_walk_X2_tips
theorem dX10_walk_0 : decode cX10_walk 0 = .ok (.iload_n 3, 1) := by decide +kernel
theorem dX10_walk_1 : decode cX10_walk 1 = .ok (.istore 4, 2) := by decide +kernel
theorem dX10_walk_3 : decode cX10_walk 3 = .ok (.iconst 0, 1) := by decide +kernel
theorem dX10_walk_4 : decode cX10_walk 4 = .ok (.istore 5, 2) := by decide +kernel
theorem dX10_walk_6 : decode cX10_walk 6 = .ok (.iconst 0, 1) := by decide +kernel
theorem dX10_walk_7 : decode cX10_walk 7 = .ok (.istore 6, 2) := by decide +kernel
theorem dX10_walk_9 : decode cX10_walk 9 = .ok (.iload 6, 2) := by decide +kernel
theorem dX10_walk_11 : decode cX10_walk 11 = .ok (.bipush 10, 2) := by decide +kernel
theorem dX10_walk_13 : decode cX10_walk 13 = .ok (.if_icmp .ge 138, 3) := by decide +kernel
theorem dX10_walk_16 : decode cX10_walk 16 = .ok (.aload_n 0, 1) := by decide +kernel
theorem dX10_walk_17 : decode cX10_walk 17 = .ok (.getfield 11, 3) := by decide +kernel
theorem dX10_walk_20 : decode cX10_walk 20 = .ok (.iconst 2, 1) := by decide +kernel
theorem dX10_walk_21 : decode cX10_walk 21 = .ok (.aaload, 1) := by decide +kernel
theorem dX10_walk_22 : decode cX10_walk 22 = .ok (.iload 6, 2) := by decide +kernel
theorem dX10_walk_24 : decode cX10_walk 24 = .ok (.iaload, 1) := by decide +kernel
theorem dX10_walk_25 : decode cX10_walk 25 = .ok (.istore 7, 2) := by decide +kernel
theorem dX10_walk_27 : decode cX10_walk 27 = .ok (.aload_n 0, 1) := by decide +kernel
theorem dX10_walk_28 : decode cX10_walk 28 = .ok (.aload_n 2, 1) := by decide +kernel
theorem dX10_walk_29 : decode cX10_walk 29 = .ok (.iload 6, 2) := by decide +kernel
theorem dX10_walk_31 : decode cX10_walk 31 = .ok (.iload 4, 2) := by decide +kernel
theorem dX10_walk_33 : decode cX10_walk 33 = .ok (.invokevirtual 143, 3) := by decide +kernel
theorem dX10_walk_36 : decode cX10_walk 36 = .ok (.iload 5, 2) := by decide +kernel
theorem dX10_walk_38 : decode cX10_walk 38 = .ok (.iconst 1, 1) := by decide +kernel
theorem dX10_walk_39 : decode cX10_walk 39 = .ok (.iconst 2, 1) := by decide +kernel
theorem dX10_walk_40 : decode cX10_walk 40 = .ok (.aload_n 0, 1) := by decide +kernel
theorem dX10_walk_41 : decode cX10_walk 41 = .ok (.getfield 48, 3) := by decide +kernel
theorem dX10_walk_44 : decode cX10_walk 44 = .ok (.aload_n 0, 1) := by decide +kernel
theorem dX10_walk_45 : decode cX10_walk 45 = .ok (.getfield 45, 3) := by decide +kernel
theorem dX10_walk_48 : decode cX10_walk 48 = .ok (.invokevirtual 173, 3) := by decide +kernel
theorem dX10_walk_51 : decode cX10_walk 51 = .ok (.iadd, 1) := by decide +kernel
theorem dX10_walk_52 : decode cX10_walk 52 = .ok (.invokestatic 75, 3) := by decide +kernel
theorem dX10_walk_55 : decode cX10_walk 55 = .ok (.aload_n 2, 1) := by decide +kernel
theorem dX10_walk_56 : decode cX10_walk 56 = .ok (.iload 7, 2) := by decide +kernel
theorem dX10_walk_58 : decode cX10_walk 58 = .ok (.invokevirtual 176, 3) := by decide +kernel
theorem dX10_walk_61 : decode cX10_walk 61 = .ok (.iadd, 1) := by decide +kernel
theorem dX10_walk_62 : decode cX10_walk 62 = .ok (.iadd, 1) := by decide +kernel
theorem dX10_walk_63 : decode cX10_walk 63 = .ok (.istore 5, 2) := by decide +kernel
theorem dX10_walk_65 : decode cX10_walk 65 = .ok (.iload 4, 2) := by decide +kernel
theorem dX10_walk_67 : decode cX10_walk 67 = .ok (.iload 4, 2) := by decide +kernel
theorem dX10_walk_69 : decode cX10_walk 69 = .ok (.aload_n 0, 1) := by decide +kernel
theorem dX10_walk_70 : decode cX10_walk 70 = .ok (.getfield 48, 3) := by decide +kernel
theorem dX10_walk_73 : decode cX10_walk 73 = .ok (.aload_n 0, 1) := by decide +kernel
theorem dX10_walk_74 : decode cX10_walk 74 = .ok (.getfield 45, 3) := by decide +kernel
theorem dX10_walk_77 : decode cX10_walk 77 = .ok (.invokevirtual 147, 3) := by decide +kernel
theorem dX10_walk_80 : decode cX10_walk 80 = .ok (.aload_n 2, 1) := by decide +kernel
theorem dX10_walk_81 : decode cX10_walk 81 = .ok (.iload 6, 2) := by decide +kernel
theorem dX10_walk_83 : decode cX10_walk 83 = .ok (.iload 7, 2) := by decide +kernel
theorem dX10_walk_85 : decode cX10_walk 85 = .ok (.invokevirtual 151, 3) := by decide +kernel
theorem dX10_walk_88 : decode cX10_walk 88 = .ok (.iadd, 1) := by decide +kernel
theorem dX10_walk_89 : decode cX10_walk 89 = .ok (.invokestatic 69, 3) := by decide +kernel
theorem dX10_walk_92 : decode cX10_walk 92 = .ok (.isub, 1) := by decide +kernel
theorem dX10_walk_93 : decode cX10_walk 93 = .ok (.istore 4, 2) := by decide +kernel
theorem dX10_walk_95 : decode cX10_walk 95 = .ok (.iload 4, 2) := by decide +kernel
theorem dX10_walk_97 : decode cX10_walk 97 = .ok (.aload_n 2, 1) := by decide +kernel
theorem dX10_walk_98 : decode cX10_walk 98 = .ok (.iload 4, 2) := by decide +kernel
theorem dX10_walk_100 : decode cX10_walk 100 = .ok (.iload 7, 2) := by decide +kernel
theorem dX10_walk_102 : decode cX10_walk 102 = .ok (.invokevirtual 179, 3) := by decide +kernel
theorem dX10_walk_105 : decode cX10_walk 105 = .ok (.isub, 1) := by decide +kernel
theorem dX10_walk_106 : decode cX10_walk 106 = .ok (.istore 4, 2) := by decide +kernel
theorem dX10_walk_108 : decode cX10_walk 108 = .ok (.aload_n 0, 1) := by decide +kernel
theorem dX10_walk_109 : decode cX10_walk 109 = .ok (.aload_n 2, 1) := by decide +kernel
theorem dX10_walk_110 : decode cX10_walk 110 = .ok (.iload 6, 2) := by decide +kernel
theorem dX10_walk_112 : decode cX10_walk 112 = .ok (.iconst 0, 1) := by decide +kernel
theorem dX10_walk_113 : decode cX10_walk 113 = .ok (.invokevirtual 143, 3) := by decide +kernel
theorem dX10_walk_116 : decode cX10_walk 116 = .ok (.iload 5, 2) := by decide +kernel
theorem dX10_walk_118 : decode cX10_walk 118 = .ok (.iconst 1, 1) := by decide +kernel
theorem dX10_walk_119 : decode cX10_walk 119 = .ok (.iconst 2, 1) := by decide +kernel
theorem dX10_walk_120 : decode cX10_walk 120 = .ok (.aload_n 0, 1) := by decide +kernel
theorem dX10_walk_121 : decode cX10_walk 121 = .ok (.getfield 48, 3) := by decide +kernel
theorem dX10_walk_124 : decode cX10_walk 124 = .ok (.aload_n 0, 1) := by decide +kernel
theorem dX10_walk_125 : decode cX10_walk 125 = .ok (.getfield 45, 3) := by decide +kernel
theorem dX10_walk_128 : decode cX10_walk 128 = .ok (.invokevirtual 173, 3) := by decide +kernel
theorem dX10_walk_131 : decode cX10_walk 131 = .ok (.iadd, 1) := by decide +kernel
theorem dX10_walk_132 : decode cX10_walk 132 = .ok (.invokestatic 75, 3) := by decide +kernel
theorem dX10_walk_135 : decode cX10_walk 135 = .ok (.aload_n 2, 1) := by decide +kernel
theorem dX10_walk_136 : decode cX10_walk 136 = .ok (.iload 7, 2) := by decide +kernel
theorem dX10_walk_138 : decode cX10_walk 138 = .ok (.invokevirtual 176, 3) := by decide +kernel
theorem dX10_walk_141 : decode cX10_walk 141 = .ok (.iadd, 1) := by decide +kernel
theorem dX10_walk_142 : decode cX10_walk 142 = .ok (.iadd, 1) := by decide +kernel
theorem dX10_walk_143 : decode cX10_walk 143 = .ok (.istore 5, 2) := by decide +kernel
theorem dX10_walk_145 : decode cX10_walk 145 = .ok (.iinc 6 1, 3) := by decide +kernel
theorem dX10_walk_148 : decode cX10_walk 148 = .ok (.goto (-139), 3) := by decide +kernel
theorem dX10_walk_151 : decode cX10_walk 151 = .ok (.aload_n 1, 1) := by decide +kernel
theorem dX10_walk_152 : decode cX10_walk 152 = .ok (.iload_n 3, 1) := by decide +kernel
theorem dX10_walk_153 : decode cX10_walk 153 = .ok (.putfield 86, 3) := by decide +kernel
theorem dX10_walk_156 : decode cX10_walk 156 = .ok (.aload_n 1, 1) := by decide +kernel
theorem dX10_walk_157 : decode cX10_walk 157 = .ok (.iload 5, 2) := by decide +kernel
theorem dX10_walk_159 : decode cX10_walk 159 = .ok (.putfield 103, 3) := by decide +kernel
theorem dX10_walk_162 : decode cX10_walk 162 = .ok (.aload_n 1, 1) := by decide +kernel
theorem dX10_walk_163 : decode cX10_walk 163 = .ok (.iload 4, 2) := by decide +kernel
theorem dX10_walk_165 : decode cX10_walk 165 = .ok (.putfield 116, 3) := by decide +kernel
theorem dX10_walk_168 : decode cX10_walk 168 = .ok (.aload_n 1, 1) := by decide +kernel
theorem dX10_walk_169 : decode cX10_walk 169 = .ok (.iconst 1, 1) := by decide +kernel
theorem dX10_walk_170 : decode cX10_walk 170 = .ok (.putfield 82, 3) := by decide +kernel
theorem dX10_walk_173 : decode cX10_walk 173 = .ok (.return_, 1) := by decide +kernel
theorem dX10_look_0 : decode cX10_look 0 = .ok (.aload_n 0, 1) := by decide +kernel
theorem dX10_look_1 : decode cX10_look 1 = .ok (.getfield 45, 3) := by decide +kernel
theorem dX10_look_4 : decode cX10_look 4 = .ok (.iconst 0, 1) := by decide +kernel
theorem dX10_look_5 : decode cX10_look 5 = .ok (.iload_n 2, 1) := by decide +kernel
theorem dX10_look_6 : decode cX10_look 6 = .ok (.iastore, 1) := by decide +kernel
theorem dX10_look_7 : decode cX10_look 7 = .ok (.aload_n 0, 1) := by decide +kernel
theorem dX10_look_8 : decode cX10_look 8 = .ok (.getfield 45, 3) := by decide +kernel
theorem dX10_look_11 : decode cX10_look 11 = .ok (.iconst 1, 1) := by decide +kernel
theorem dX10_look_12 : decode cX10_look 12 = .ok (.aload_n 0, 1) := by decide +kernel
theorem dX10_look_13 : decode cX10_look 13 = .ok (.getfield 11, 3) := by decide +kernel
theorem dX10_look_16 : decode cX10_look 16 = .ok (.iconst 0, 1) := by decide +kernel
theorem dX10_look_17 : decode cX10_look 17 = .ok (.aaload, 1) := by decide +kernel
theorem dX10_look_18 : decode cX10_look 18 = .ok (.iload_n 2, 1) := by decide +kernel
theorem dX10_look_19 : decode cX10_look 19 = .ok (.iaload, 1) := by decide +kernel
theorem dX10_look_20 : decode cX10_look 20 = .ok (.iastore, 1) := by decide +kernel
theorem dX10_look_21 : decode cX10_look 21 = .ok (.aload_n 0, 1) := by decide +kernel
theorem dX10_look_22 : decode cX10_look 22 = .ok (.getfield 45, 3) := by decide +kernel
theorem dX10_look_25 : decode cX10_look 25 = .ok (.iconst 2, 1) := by decide +kernel
theorem dX10_look_26 : decode cX10_look 26 = .ok (.aload_n 0, 1) := by decide +kernel
theorem dX10_look_27 : decode cX10_look 27 = .ok (.getfield 11, 3) := by decide +kernel
theorem dX10_look_30 : decode cX10_look 30 = .ok (.iconst 1, 1) := by decide +kernel
theorem dX10_look_31 : decode cX10_look 31 = .ok (.aaload, 1) := by decide +kernel
theorem dX10_look_32 : decode cX10_look 32 = .ok (.iload_n 2, 1) := by decide +kernel
theorem dX10_look_33 : decode cX10_look 33 = .ok (.iaload, 1) := by decide +kernel
theorem dX10_look_34 : decode cX10_look 34 = .ok (.iastore, 1) := by decide +kernel
theorem dX10_look_35 : decode cX10_look 35 = .ok (.aload_n 0, 1) := by decide +kernel
theorem dX10_look_36 : decode cX10_look 36 = .ok (.getfield 45, 3) := by decide +kernel
theorem dX10_look_39 : decode cX10_look 39 = .ok (.iconst 3, 1) := by decide +kernel
theorem dX10_look_40 : decode cX10_look 40 = .ok (.aload_n 0, 1) := by decide +kernel
theorem dX10_look_41 : decode cX10_look 41 = .ok (.getfield 11, 3) := by decide +kernel
theorem dX10_look_44 : decode cX10_look 44 = .ok (.iconst 2, 1) := by decide +kernel
