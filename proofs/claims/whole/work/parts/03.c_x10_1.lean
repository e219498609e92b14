theorem dX10_look_45 : decode cX10_look 45 = .ok (.aaload, 1) := by decide +kernel
theorem dX10_look_46 : decode cX10_look 46 = .ok (.iload_n 2, 1) := by decide +kernel
theorem dX10_look_47 : decode cX10_look 47 = .ok (.iaload, 1) := by decide +kernel
theorem dX10_look_48 : decode cX10_look 48 = .ok (.iastore, 1) := by decide +kernel
theorem dX10_look_49 : decode cX10_look 49 = .ok (.aload_n 0, 1) := by decide +kernel
theorem dX10_look_50 : decode cX10_look 50 = .ok (.getfield 45, 3) := by decide +kernel
theorem dX10_look_53 : decode cX10_look 53 = .ok (.iconst 4, 1) := by decide +kernel
theorem dX10_look_54 : decode cX10_look 54 = .ok (.iload_n 3, 1) := by decide +kernel
theorem dX10_look_55 : decode cX10_look 55 = .ok (.iastore, 1) := by decide +kernel
theorem dX10_look_56 : decode cX10_look 56 = .ok (.aload_n 0, 1) := by decide +kernel
theorem dX10_look_57 : decode cX10_look 57 = .ok (.getfield 45, 3) := by decide +kernel
theorem dX10_look_60 : decode cX10_look 60 = .ok (.iconst 5, 1) := by decide +kernel
theorem dX10_look_61 : decode cX10_look 61 = .ok (.aload_n 1, 1) := by decide +kernel
theorem dX10_look_62 : decode cX10_look 62 = .ok (.getfield 182, 3) := by decide +kernel
theorem dX10_look_65 : decode cX10_look 65 = .ok (.iastore, 1) := by decide +kernel
theorem dX10_look_66 : decode cX10_look 66 = .ok (.return_, 1) := by decide +kernel
set_option maxRecDepth 20000 in
theorem ggX10_soften_X10_forget : GoodIn wsX10_soften wsX10_forget := goodIn_r _ [6, 7, 8, 9, 10, 11, 12, 13, 14, 15, 16, 17, 18, 19, 20, 21, 22, 23, 24, 25, 26, 27, 28, 29, 30] (by decide +kernel) (by decide +kernel)
set_option maxRecDepth 20000 in
theorem gX10_soften_X10_forget : GoodIn wsX10_soften (wsV RX10 62 RX10 yX10_forget wsX10_forget) := goodIn_app (goodIn_of _ (by decide +kernel)) ggX10_soften_X10_forget
theorem dX10_soften_0 : decode cX10_soften 0 = .ok (.iconst 0, 1) := by decide +kernel
theorem dX10_soften_1 : decode cX10_soften 1 = .ok (.istore_n 1, 1) := by decide +kernel
theorem dX10_soften_2 : decode cX10_soften 2 = .ok (.iconst 0, 1) := by decide +kernel
theorem dX10_soften_3 : decode cX10_soften 3 = .ok (.istore_n 2, 1) := by decide +kernel
theorem dX10_soften_4 : decode cX10_soften 4 = .ok (.iload_n 2, 1) := by decide +kernel
theorem dX10_soften_5 : decode cX10_soften 5 = .ok (.bipush 10, 2) := by decide +kernel
theorem dX10_soften_7 : decode cX10_soften 7 = .ok (.if_icmp .ge 47, 3) := by decide +kernel
theorem dX10_soften_10 : decode cX10_soften 10 = .ok (.aload_n 0, 1) := by decide +kernel
theorem dX10_soften_11 : decode cX10_soften 11 = .ok (.getfield 11, 3) := by decide +kernel
theorem dX10_soften_14 : decode cX10_soften 14 = .ok (.iconst 2, 1) := by decide +kernel
theorem dX10_soften_15 : decode cX10_soften 15 = .ok (.aaload, 1) := by decide +kernel
theorem dX10_soften_16 : decode cX10_soften 16 = .ok (.iload_n 2, 1) := by decide +kernel
theorem dX10_soften_17 : decode cX10_soften 17 = .ok (.iaload, 1) := by decide +kernel
theorem dX10_soften_18 : decode cX10_soften 18 = .ok (.ifCond .ne 30, 3) := by decide +kernel
theorem dX10_soften_21 : decode cX10_soften 21 = .ok (.aload_n 0, 1) := by decide +kernel
theorem dX10_soften_22 : decode cX10_soften 22 = .ok (.getfield 11, 3) := by decide +kernel
theorem dX10_soften_25 : decode cX10_soften 25 = .ok (.iconst 0, 1) := by decide +kernel
theorem dX10_soften_26 : decode cX10_soften 26 = .ok (.aaload, 1) := by decide +kernel
theorem dX10_soften_27 : decode cX10_soften 27 = .ok (.iload_n 2, 1) := by decide +kernel
theorem dX10_soften_28 : decode cX10_soften 28 = .ok (.iaload, 1) := by decide +kernel
theorem dX10_soften_29 : decode cX10_soften 29 = .ok (.bipush 9, 2) := by decide +kernel
theorem dX10_soften_31 : decode cX10_soften 31 = .ok (.if_icmp .ge 17, 3) := by decide +kernel
theorem dX10_soften_34 : decode cX10_soften 34 = .ok (.aload_n 0, 1) := by decide +kernel
theorem dX10_soften_35 : decode cX10_soften 35 = .ok (.getfield 11, 3) := by decide +kernel
theorem dX10_soften_38 : decode cX10_soften 38 = .ok (.iconst 0, 1) := by decide +kernel
theorem dX10_soften_39 : decode cX10_soften 39 = .ok (.aaload, 1) := by decide +kernel
theorem dX10_soften_40 : decode cX10_soften 40 = .ok (.iload_n 2, 1) := by decide +kernel
theorem dX10_soften_41 : decode cX10_soften 41 = .ok (.dup2, 1) := by decide +kernel
theorem dX10_soften_42 : decode cX10_soften 42 = .ok (.iaload, 1) := by decide +kernel
theorem dX10_soften_43 : decode cX10_soften 43 = .ok (.iconst 1, 1) := by decide +kernel
theorem dX10_soften_44 : decode cX10_soften 44 = .ok (.iadd, 1) := by decide +kernel
theorem dX10_soften_45 : decode cX10_soften 45 = .ok (.iastore, 1) := by decide +kernel
theorem dX10_soften_46 : decode cX10_soften 46 = .ok (.iconst 1, 1) := by decide +kernel
theorem dX10_soften_47 : decode cX10_soften 47 = .ok (.istore_n 1, 1) := by decide +kernel
theorem dX10_soften_48 : decode cX10_soften 48 = .ok (.iinc 2 1, 3) := by decide +kernel
theorem dX10_soften_51 : decode cX10_soften 51 = .ok (.goto (-47), 3) := by decide +kernel
theorem dX10_soften_54 : decode cX10_soften 54 = .ok (.iload_n 1, 1) := by decide +kernel
theorem dX10_soften_55 : decode cX10_soften 55 = .ok (.ifCond .eq 7, 3) := by decide +kernel
theorem dX10_soften_58 : decode cX10_soften 58 = .ok (.aload_n 0, 1) := by decide +kernel
theorem dX10_soften_59 : decode cX10_soften 59 = .ok (.invokevirtual 62, 3) := by decide +kernel
theorem dX10_soften_62 : decode cX10_soften 62 = .ok (.return_, 1) := by decide +kernel
theorem dX10_forget_0 : decode cX10_forget 0 = .ok (.iconst 0, 1) := by decide +kernel
theorem dX10_forget_1 : decode cX10_forget 1 = .ok (.istore_n 1, 1) := by decide +kernel
theorem dX10_forget_2 : decode cX10_forget 2 = .ok (.iload_n 1, 1) := by decide +kernel
theorem dX10_forget_3 : decode cX10_forget 3 = .ok (.iconst 4, 1) := by decide +kernel
theorem dX10_forget_4 : decode cX10_forget 4 = .ok (.if_icmp .ge 19, 3) := by decide +kernel
theorem dX10_forget_7 : decode cX10_forget 7 = .ok (.aload_n 0, 1) := by decide +kernel
theorem dX10_forget_8 : decode cX10_forget 8 = .ok (.getfield 39, 3) := by decide +kernel
theorem dX10_forget_11 : decode cX10_forget 11 = .ok (.iload_n 1, 1) := by decide +kernel
theorem dX10_forget_12 : decode cX10_forget 12 = .ok (.aaload, 1) := by decide +kernel
theorem dX10_forget_13 : decode cX10_forget 13 = .ok (.iconst 0, 1) := by decide +kernel
theorem dX10_forget_14 : decode cX10_forget 14 = .ok (.putfield 82, 3) := by decide +kernel
theorem dX10_forget_17 : decode cX10_forget 17 = .ok (.iinc 1 1, 3) := by decide +kernel
theorem dX10_forget_20 : decode cX10_forget 20 = .ok (.goto (-18), 3) := by decide +kernel
theorem dX10_forget_23 : decode cX10_forget 23 = .ok (.return_, 1) := by decide +kernel
