set_option maxRecDepth 20000 in
theorem ggX11_init_X4_init : GoodIn wsX11_init wsX4_init := goodIn_r _ [23, 24, 2, 3, 25, 26, 27, 28, 29, 30, 31, 72, 73, 74, 75, 76, 77, 78, 79] (by decide +kernel) (by decide +kernel)
set_option maxRecDepth 20000 in
theorem gX11_init_X4_init_n11 : GoodIn wsX11_init (wsX4_init) := ggX11_init_X4_init
set_option maxRecDepth 20000 in
theorem ggX11_init_X10_init : GoodIn wsX11_init wsX10_init := goodIn_r _ [34, 35, 2, 3, 36, 27, 37, 38, 39, 40, 41, 42, 43, 44, 45, 46, 47, 48, 49, 50, 51, 52, 53, 80, 81, 82, 83, 84, 85, 86, 87, 88, 89, 90, 91, 92, 93, 94, 95, 109, 110, 111, 112, 113, 114] (by decide +kernel) (by decide +kernel)
set_option maxRecDepth 20000 in
theorem gX11_init_X10_init : GoodIn wsX11_init (wsX10_init) := ggX11_init_X10_init
set_option maxRecDepth 20000 in
theorem ggX11_init_X5_init : GoodIn wsX11_init wsX5_init := goodIn_r _ [55, 56, 2, 3] (by decide +kernel) (by decide +kernel)
set_option maxRecDepth 20000 in
theorem gX11_init_X5_init_n31 : GoodIn wsX11_init (wsX5_init) := ggX11_init_X5_init
set_option maxRecDepth 20000 in
theorem ggX11_init_Jx4a65c_init_da8c8 : GoodIn wsX11_init wsJx4a65c_init_da8c8 := goodIn_r _ [59, 60, 61, 62, 63, 64, 65, 66, 67, 68, 69, 70, 71, 2, 3, 106, 107, 108] (by decide +kernel) (by decide +kernel)
set_option maxRecDepth 20000 in
theorem gX11_init_Jx4a65c_init_da8c8 : GoodIn wsX11_init (wsJx4a65c_init_da8c8) := ggX11_init_Jx4a65c_init_da8c8
theorem dX11_init_0 : decode cX11_init 0 = .ok (.aload_n 0, 1) := by decide +kernel
theorem dX11_init_1 : decode cX11_init 1 = .ok (.invokespecial 3, 3) := by decide +kernel
theorem dX11_init_4 : decode cX11_init 4 = .ok (.new 9, 3) := by decide +kernel
theorem dX11_init_7 : decode cX11_init 7 = .ok (.dup, 1) := by decide +kernel
theorem dX11_init_8 : decode cX11_init 8 = .ok (.invokespecial 11, 3) := by decide +kernel
theorem dX11_init_11 : decode cX11_init 11 = .ok (.astore_n 1, 1) := by decide +kernel
theorem dX11_init_12 : decode cX11_init 12 = .ok (.aload_n 0, 1) := by decide +kernel
theorem dX11_init_13 : decode cX11_init 13 = .ok (.new 12, 3) := by decide +kernel
theorem dX11_init_16 : decode cX11_init 16 = .ok (.dup, 1) := by decide +kernel
theorem dX11_init_17 : decode cX11_init 17 = .ok (.aload_n 1, 1) := by decide +kernel
theorem dX11_init_18 : decode cX11_init 18 = .ok (.invokespecial 14, 3) := by decide +kernel
theorem dX11_init_21 : decode cX11_init 21 = .ok (.putfield 17, 3) := by decide +kernel
theorem dX11_init_24 : decode cX11_init 24 = .ok (.aload_n 0, 1) := by decide +kernel
theorem dX11_init_25 : decode cX11_init 25 = .ok (.new 12, 3) := by decide +kernel
theorem dX11_init_28 : decode cX11_init 28 = .ok (.dup, 1) := by decide +kernel
theorem dX11_init_29 : decode cX11_init 29 = .ok (.aload_n 1, 1) := by decide +kernel
theorem dX11_init_30 : decode cX11_init 30 = .ok (.invokespecial 14, 3) := by decide +kernel
theorem dX11_init_33 : decode cX11_init 33 = .ok (.putfield 23, 3) := by decide +kernel
theorem dX11_init_36 : decode cX11_init 36 = .ok (.aload_n 0, 1) := by decide +kernel
theorem dX11_init_37 : decode cX11_init 37 = .ok (.new 12, 3) := by decide +kernel
theorem dX11_init_40 : decode cX11_init 40 = .ok (.dup, 1) := by decide +kernel
theorem dX11_init_41 : decode cX11_init 41 = .ok (.aload_n 1, 1) := by decide +kernel
theorem dX11_init_42 : decode cX11_init 42 = .ok (.invokespecial 14, 3) := by decide +kernel
theorem dX11_init_45 : decode cX11_init 45 = .ok (.putfield 26, 3) := by decide +kernel
theorem dX11_init_48 : decode cX11_init 48 = .ok (.aload_n 0, 1) := by decide +kernel
theorem dX11_init_49 : decode cX11_init 49 = .ok (.new 29, 3) := by decide +kernel
theorem dX11_init_52 : decode cX11_init 52 = .ok (.dup, 1) := by decide +kernel
theorem dX11_init_53 : decode cX11_init 53 = .ok (.invokespecial 31, 3) := by decide +kernel
theorem dX11_init_56 : decode cX11_init 56 = .ok (.putfield 32, 3) := by decide +kernel
theorem dX11_init_59 : decode cX11_init 59 = .ok (.aload_n 0, 1) := by decide +kernel
theorem dX11_init_60 : decode cX11_init 60 = .ok (.new 36, 3) := by decide +kernel
theorem dX11_init_63 : decode cX11_init 63 = .ok (.dup, 1) := by decide +kernel
theorem dX11_init_64 : decode cX11_init 64 = .ok (.invokespecial 38, 3) := by decide +kernel
theorem dX11_init_67 : decode cX11_init 67 = .ok (.putfield 39, 3) := by decide +kernel
theorem dX11_init_70 : decode cX11_init 70 = .ok (.aload_n 0, 1) := by decide +kernel
theorem dX11_init_71 : decode cX11_init 71 = .ok (.iconst 0, 1) := by decide +kernel
theorem dX11_init_72 : decode cX11_init 72 = .ok (.putfield 43, 3) := by decide +kernel
theorem dX11_init_75 : decode cX11_init 75 = .ok (.return_, 1) := by decide +kernel
set_option maxRecDepth 20000 in
theorem ggX11_feed_X11_outside : GoodIn wsX11_feed wsX11_outside := goodIn_r _ [7] (by decide +kernel) (by decide +kernel)
set_option maxRecDepth 20000 in
theorem gX11_feed_X11_outside : GoodIn wsX11_feed (va_wsS RX11 47 yX11_outside wsX11_outside) := goodIn_app (goodIn_of _ (by decide +kernel)) ggX11_feed_X11_outside
theorem dX11_feed_0 : decode cX11_feed 0 = .ok (.iload_n 1, 1) := by decide +kernel
theorem dX11_feed_1 : decode cX11_feed 1 = .ok (.iconst 0, 1) := by decide +kernel
theorem dX11_feed_2 : decode cX11_feed 2 = .ok (.bipush 127, 2) := by decide +kernel
theorem dX11_feed_4 : decode cX11_feed 4 = .ok (.invokestatic 47, 3) := by decide +kernel
theorem dX11_feed_7 : decode cX11_feed 7 = .ok (.ifCond .eq 6, 3) := by decide +kernel
theorem dX11_feed_10 : decode cX11_feed 10 = .ok (.bipush (-2), 2) := by decide +kernel
theorem dX11_feed_12 : decode cX11_feed 12 = .ok (.ireturn, 1) := by decide +kernel
theorem dX11_feed_13 : decode cX11_feed 13 = .ok (.aload_n 0, 1) := by decide +kernel
theorem dX11_feed_14 : decode cX11_feed 14 = .ok (.getfield 17, 3) := by decide +kernel
theorem dX11_feed_17 : decode cX11_feed 17 = .ok (.getfield 51, 3) := by decide +kernel
theorem dX11_feed_20 : decode cX11_feed 20 = .ok (.bipush 100, 2) := by decide +kernel
theorem dX11_feed_22 : decode cX11_feed 22 = .ok (.if_icmp .lt 6, 3) := by decide +kernel
theorem dX11_feed_25 : decode cX11_feed 25 = .ok (.bipush (-4), 2) := by decide +kernel
theorem dX11_feed_27 : decode cX11_feed 27 = .ok (.ireturn, 1) := by decide +kernel
theorem dX11_feed_28 : decode cX11_feed 28 = .ok (.aload_n 0, 1) := by decide +kernel
theorem dX11_feed_29 : decode cX11_feed 29 = .ok (.getfield 17, 3) := by decide +kernel
theorem dX11_feed_32 : decode cX11_feed 32 = .ok (.getfield 55, 3) := by decide +kernel
theorem dX11_feed_35 : decode cX11_feed 35 = .ok (.aload_n 0, 1) := by decide +kernel
theorem dX11_feed_36 : decode cX11_feed 36 = .ok (.getfield 17, 3) := by decide +kernel
theorem dX11_feed_39 : decode cX11_feed 39 = .ok (.getfield 51, 3) := by decide +kernel
theorem dX11_feed_42 : decode cX11_feed 42 = .ok (.iload_n 1, 1) := by decide +kernel
theorem dX11_feed_43 : decode cX11_feed 43 = .ok (.i2c, 1) := by decide +kernel
theorem dX11_feed_44 : decode cX11_feed 44 = .ok (.castore, 1) := by decide +kernel
theorem dX11_feed_45 : decode cX11_feed 45 = .ok (.aload_n 0, 1) := by decide +kernel
theorem dX11_feed_46 : decode cX11_feed 46 = .ok (.getfield 17, 3) := by decide +kernel
theorem dX11_feed_49 : decode cX11_feed 49 = .ok (.dup, 1) := by decide +kernel
theorem dX11_feed_50 : decode cX11_feed 50 = .ok (.getfield 51, 3) := by decide +kernel
theorem dX11_feed_53 : decode cX11_feed 53 = .ok (.iconst 1, 1) := by decide +kernel
theorem dX11_feed_54 : decode cX11_feed 54 = .ok (.iadd, 1) := by decide +kernel
theorem dX11_feed_55 : decode cX11_feed 55 = .ok (.putfield 51, 3) := by decide +kernel
theorem dX11_feed_58 : decode cX11_feed 58 = .ok (.aload_n 0, 1) := by decide +kernel
theorem dX11_feed_59 : decode cX11_feed 59 = .ok (.getfield 17, 3) := by decide +kernel
theorem dX11_feed_62 : decode cX11_feed 62 = .ok (.getfield 51, 3) := by decide +kernel
theorem dX11_feed_65 : decode cX11_feed 65 = .ok (.ireturn, 1) := by decide +kernel
set_option maxRecDepth 20000 in
theorem ggX11_site_X5_read : GoodIn wsX11_site wsX5_read := goodIn_r _ [11, 12, 13, 14, 15, 16, 17, 18, 19, 20, 21, 22, 23, 24, 25, 26, 27, 28, 29, 30, 31, 32, 33, 34, 35, 36, 37, 10, 38, 39, 40, 41, 42, 43, 44, 45, 46, 47, 48, 49, 50, 51, 52, 53, 54, 55, 56, 57, 58, 59, 60, 61, 62, 63, 64, 65, 66, 67, 68, 69, 70, 71, 72, 73, 74, 75, 76, 77, 78, 79, 80, 81, 82, 83, 84, 85, 86, 87, 88, 89, 90, 91, 92, 93, 94, 95, 96, 97, 98, 99, 100, 101, 102, 103, 104, 105, 106, 107, 108, 109, 110, 111, 112, 113, 114, 115, 116, 117, 118, 119, 120, 121, 122, 123, 124, 125, 126, 127, 128, 129, 130, 131, 132, 133, 134, 135, 136, 137, 138, 139, 140, 141, 142, 143, 144, 145, 146, 147, 148, 149, 150, 151, 152, 153, 154, 155, 156, 157, 158, 159, 160, 161, 162, 163, 164, 165, 166, 167, 168, 169, 170, 171, 172, 173, 174, 175, 176, 177, 178, 179, 180, 181, 182, 183, 184, 185, 186, 187, 188, 189, 190, 191, 192, 193, 194, 195, 196, 197, 198, 199, 235, 236, 237, 238, 239, 240, 241, 242, 243, 244, 245, 246] (by decide +kernel) (by decide +kernel)
set_option maxRecDepth 20000 in
theorem gX11_site_X5_read : GoodIn wsX11_site (wsV RX11 62 RX5 yX5_read wsX5_read) := goodIn_app (goodIn_of _ (by decide +kernel)) ggX11_site_X5_read
set_option maxRecDepth 20000 in
theorem ggX11_site_X10_settle : GoodIn wsX11_site wsX10_settle := goodIn_r _ [204, 205, 206, 207, 208, 209, 203, 210, 211, 212, 219, 220, 221, 222, 223, 224, 225, 226, 227, 228, 229, 230, 231, 232, 233, 234, 247, 248, 249, 250, 251, 252] (by decide +kernel) (by decide +kernel)
set_option maxRecDepth 20000 in
theorem gX11_site_X10_settle : GoodIn wsX11_site (wsV RX11 69 RX10 yX10_settle wsX10_settle) := goodIn_app (goodIn_of _ (by decide +kernel)) ggX11_site_X10_settle
theorem dX11_site_0 : decode cX11_site 0 = .ok (.aload_n 0, 1) := by decide +kernel
theorem dX11_site_1 : decode cX11_site 1 = .ok (.getfield 17, 3) := by decide +kernel
theorem dX11_site_4 : decode cX11_site 4 = .ok (.getfield 59, 3) := by decide +kernel
theorem dX11_site_7 : decode cX11_site 7 = .ok (.iconst 5, 1) := by decide +kernel
theorem dX11_site_8 : decode cX11_site 8 = .ok (.if_icmp .lt 6, 3) := by decide +kernel
theorem dX11_site_11 : decode cX11_site 11 = .ok (.bipush (-4), 2) := by decide +kernel
theorem dX11_site_13 : decode cX11_site 13 = .ok (.ireturn, 1) := by decide +kernel
theorem dX11_site_14 : decode cX11_site 14 = .ok (.aload_n 0, 1) := by decide +kernel
theorem dX11_site_15 : decode cX11_site 15 = .ok (.getfield 32, 3) := by decide +kernel
theorem dX11_site_18 : decode cX11_site 18 = .ok (.aload_n 0, 1) := by decide +kernel
theorem dX11_site_19 : decode cX11_site 19 = .ok (.getfield 17, 3) := by decide +kernel
theorem dX11_site_22 : decode cX11_site 22 = .ok (.getfield 55, 3) := by decide +kernel
theorem dX11_site_25 : decode cX11_site 25 = .ok (.aload_n 0, 1) := by decide +kernel
theorem dX11_site_26 : decode cX11_site 26 = .ok (.getfield 17, 3) := by decide +kernel
theorem dX11_site_29 : decode cX11_site 29 = .ok (.getfield 51, 3) := by decide +kernel
theorem dX11_site_32 : decode cX11_site 32 = .ok (.invokevirtual 62, 3) := by decide +kernel
theorem dX11_site_35 : decode cX11_site 35 = .ok (.astore_n 1, 1) := by decide +kernel
theorem dX11_site_36 : decode cX11_site 36 = .ok (.aload_n 0, 1) := by decide +kernel
theorem dX11_site_37 : decode cX11_site 37 = .ok (.getfield 17, 3) := by decide +kernel
theorem dX11_site_40 : decode cX11_site 40 = .ok (.iconst 0, 1) := by decide +kernel
theorem dX11_site_41 : decode cX11_site 41 = .ok (.putfield 51, 3) := by decide +kernel
theorem dX11_site_44 : decode cX11_site 44 = .ok (.aload_n 1, 1) := by decide +kernel
theorem dX11_site_45 : decode cX11_site 45 = .ok (.ifnonnull 14, 3) := by decide +kernel
theorem dX11_site_48 : decode cX11_site 48 = .ok (.bipush (-10), 2) := by decide +kernel
theorem dX11_site_50 : decode cX11_site 50 = .ok (.aload_n 0, 1) := by decide +kernel
theorem dX11_site_51 : decode cX11_site 51 = .ok (.getfield 32, 3) := by decide +kernel
theorem dX11_site_54 : decode cX11_site 54 = .ok (.getfield 66, 3) := by decide +kernel
theorem dX11_site_57 : decode cX11_site 57 = .ok (.isub, 1) := by decide +kernel
theorem dX11_site_58 : decode cX11_site 58 = .ok (.ireturn, 1) := by decide +kernel
theorem dX11_site_59 : decode cX11_site 59 = .ok (.aload_n 0, 1) := by decide +kernel
theorem dX11_site_60 : decode cX11_site 60 = .ok (.getfield 17, 3) := by decide +kernel
theorem dX11_site_63 : decode cX11_site 63 = .ok (.aload_n 1, 1) := by decide +kernel
theorem dX11_site_64 : decode cX11_site 64 = .ok (.invokevirtual 69, 3) := by decide +kernel
theorem dX11_site_67 : decode cX11_site 67 = .ok (.aload_n 0, 1) := by decide +kernel
theorem dX11_site_68 : decode cX11_site 68 = .ok (.getfield 17, 3) := by decide +kernel
theorem dX11_site_71 : decode cX11_site 71 = .ok (.getfield 59, 3) := by decide +kernel
theorem dX11_site_74 : decode cX11_site 74 = .ok (.iconst 1, 1) := by decide +kernel
theorem dX11_site_75 : decode cX11_site 75 = .ok (.isub, 1) := by decide +kernel
theorem dX11_site_76 : decode cX11_site 76 = .ok (.ireturn, 1) := by decide +kernel
set_option maxRecDepth 20000 in
theorem ggX11_yard_X11_outside : GoodIn wsX11_yard wsX11_outside := goodIn_r _ [5] (by decide +kernel) (by decide +kernel)
set_option maxRecDepth 20000 in
theorem gX11_yard_X11_outside : GoodIn wsX11_yard (va_wsS RX11 47 yX11_outside wsX11_outside) := goodIn_app (goodIn_of _ (by decide +kernel)) ggX11_yard_X11_outside
set_option maxRecDepth 20000 in
theorem ggX11_yard_X10_lay : GoodIn wsX11_yard wsX10_lay := goodIn_r _ [10, 11, 12, 13, 14, 9, 15, 16, 17, 24, 25, 26, 27, 28, 29, 30, 31, 32, 33, 34, 35, 36, 37, 38, 39, 40, 41, 42, 43, 44, 45] (by decide +kernel) (by decide +kernel)
set_option maxRecDepth 20000 in
theorem gX11_yard_X10_lay : GoodIn wsX11_yard (wsV RX11 72 RX10 yX10_lay wsX10_lay) := goodIn_app (goodIn_of _ (by decide +kernel)) ggX11_yard_X10_lay
theorem dX11_yard_0 : decode cX11_yard 0 = .ok (.iload_n 1, 1) := by decide +kernel
theorem dX11_yard_1 : decode cX11_yard 1 = .ok (.iconst 0, 1) := by decide +kernel
theorem dX11_yard_2 : decode cX11_yard 2 = .ok (.bipush 9, 2) := by decide +kernel
theorem dX11_yard_4 : decode cX11_yard 4 = .ok (.invokestatic 47, 3) := by decide +kernel
theorem dX11_yard_7 : decode cX11_yard 7 = .ok (.ifCond .ne 12, 3) := by decide +kernel
theorem dX11_yard_10 : decode cX11_yard 10 = .ok (.iload_n 2, 1) := by decide +kernel
theorem dX11_yard_11 : decode cX11_yard 11 = .ok (.iconst 0, 1) := by decide +kernel
theorem dX11_yard_12 : decode cX11_yard 12 = .ok (.iconst 2, 1) := by decide +kernel
theorem dX11_yard_13 : decode cX11_yard 13 = .ok (.invokestatic 47, 3) := by decide +kernel
theorem dX11_yard_16 : decode cX11_yard 16 = .ok (.ifCond .eq 5, 3) := by decide +kernel
theorem dX11_yard_19 : decode cX11_yard 19 = .ok (.iconst (-1), 1) := by decide +kernel
theorem dX11_yard_20 : decode cX11_yard 20 = .ok (.ireturn, 1) := by decide +kernel
theorem dX11_yard_21 : decode cX11_yard 21 = .ok (.iload_n 3, 1) := by decide +kernel
theorem dX11_yard_22 : decode cX11_yard 22 = .ok (.iconst 0, 1) := by decide +kernel
theorem dX11_yard_23 : decode cX11_yard 23 = .ok (.bipush 9, 2) := by decide +kernel
theorem dX11_yard_25 : decode cX11_yard 25 = .ok (.invokestatic 47, 3) := by decide +kernel
theorem dX11_yard_28 : decode cX11_yard 28 = .ok (.ifCond .eq 6, 3) := by decide +kernel
theorem dX11_yard_31 : decode cX11_yard 31 = .ok (.bipush (-2), 2) := by decide +kernel
theorem dX11_yard_33 : decode cX11_yard 33 = .ok (.ireturn, 1) := by decide +kernel
theorem dX11_yard_34 : decode cX11_yard 34 = .ok (.aload_n 0, 1) := by decide +kernel
theorem dX11_yard_35 : decode cX11_yard 35 = .ok (.getfield 17, 3) := by decide +kernel
theorem dX11_yard_38 : decode cX11_yard 38 = .ok (.iload_n 1, 1) := by decide +kernel
theorem dX11_yard_39 : decode cX11_yard 39 = .ok (.iload_n 2, 1) := by decide +kernel
theorem dX11_yard_40 : decode cX11_yard 40 = .ok (.iload_n 3, 1) := by decide +kernel
theorem dX11_yard_41 : decode cX11_yard 41 = .ok (.invokevirtual 72, 3) := by decide +kernel
theorem dX11_yard_44 : decode cX11_yard 44 = .ok (.ireturn, 1) := by decide +kernel
set_option maxRecDepth 20000 in
theorem ggX11_at_X11_outside : GoodIn wsX11_at wsX11_outside := goodIn_r _ [6] (by decide +kernel) (by decide +kernel)
set_option maxRecDepth 20000 in
theorem gX11_at_X11_outside : GoodIn wsX11_at (va_wsS RX11 47 yX11_outside wsX11_outside) := goodIn_app (goodIn_of _ (by decide +kernel)) ggX11_at_X11_outside
theorem dX11_at_0 : decode cX11_at 0 = .ok (.iload_n 1, 1) := by decide +kernel
theorem dX11_at_1 : decode cX11_at 1 = .ok (.iconst 0, 1) := by decide +kernel
theorem dX11_at_2 : decode cX11_at 2 = .ok (.bipush 9, 2) := by decide +kernel
theorem dX11_at_4 : decode cX11_at 4 = .ok (.invokestatic 47, 3) := by decide +kernel
theorem dX11_at_7 : decode cX11_at 7 = .ok (.ifCond .ne 12, 3) := by decide +kernel
theorem dX11_at_10 : decode cX11_at 10 = .ok (.iload_n 2, 1) := by decide +kernel
theorem dX11_at_11 : decode cX11_at 11 = .ok (.iconst 0, 1) := by decide +kernel
theorem dX11_at_12 : decode cX11_at 12 = .ok (.iconst 2, 1) := by decide +kernel
theorem dX11_at_13 : decode cX11_at 13 = .ok (.invokestatic 47, 3) := by decide +kernel
theorem dX11_at_16 : decode cX11_at 16 = .ok (.ifCond .eq 5, 3) := by decide +kernel
theorem dX11_at_19 : decode cX11_at 19 = .ok (.iconst (-1), 1) := by decide +kernel
theorem dX11_at_20 : decode cX11_at 20 = .ok (.ireturn, 1) := by decide +kernel
theorem dX11_at_21 : decode cX11_at 21 = .ok (.aload_n 0, 1) := by decide +kernel
theorem dX11_at_22 : decode cX11_at 22 = .ok (.getfield 17, 3) := by decide +kernel
theorem dX11_at_25 : decode cX11_at 25 = .ok (.getfield 76, 3) := by decide +kernel
theorem dX11_at_28 : decode cX11_at 28 = .ok (.iload_n 2, 1) := by decide +kernel
theorem dX11_at_29 : decode cX11_at 29 = .ok (.aaload, 1) := by decide +kernel
theorem dX11_at_30 : decode cX11_at 30 = .ok (.iload_n 1, 1) := by decide +kernel
theorem dX11_at_31 : decode cX11_at 31 = .ok (.iaload, 1) := by decide +kernel
theorem dX11_at_32 : decode cX11_at 32 = .ok (.ireturn, 1) := by decide +kernel
set_option maxRecDepth 20000 in
theorem ggX11_earth_X11_outside : GoodIn wsX11_earth wsX11_outside := goodIn_r _ [6] (by decide +kernel) (by decide +kernel)
set_option maxRecDepth 20000 in
theorem gX11_earth_X11_outside : GoodIn wsX11_earth (va_wsS RX11 47 yX11_outside wsX11_outside) := goodIn_app (goodIn_of _ (by decide +kernel)) ggX11_earth_X11_outside
theorem dX11_earth_0 : decode cX11_earth 0 = .ok (.iload_n 1, 1) := by decide +kernel
theorem dX11_earth_1 : decode cX11_earth 1 = .ok (.iconst 0, 1) := by decide +kernel
theorem dX11_earth_2 : decode cX11_earth 2 = .ok (.sipush 999, 3) := by decide +kernel
theorem dX11_earth_5 : decode cX11_earth 5 = .ok (.invokestatic 47, 3) := by decide +kernel
theorem dX11_earth_8 : decode cX11_earth 8 = .ok (.ifCond .eq 6, 3) := by decide +kernel
theorem dX11_earth_11 : decode cX11_earth 11 = .ok (.bipush (-2), 2) := by decide +kernel
theorem dX11_earth_13 : decode cX11_earth 13 = .ok (.ireturn, 1) := by decide +kernel
theorem dX11_earth_14 : decode cX11_earth 14 = .ok (.aload_n 0, 1) := by decide +kernel
theorem dX11_earth_15 : decode cX11_earth 15 = .ok (.getfield 17, 3) := by decide +kernel
theorem dX11_earth_18 : decode cX11_earth 18 = .ok (.getfield 80, 3) := by decide +kernel
theorem dX11_earth_21 : decode cX11_earth 21 = .ok (.istore_n 2, 1) := by decide +kernel
theorem dX11_earth_22 : decode cX11_earth 22 = .ok (.aload_n 0, 1) := by decide +kernel
theorem dX11_earth_23 : decode cX11_earth 23 = .ok (.getfield 17, 3) := by decide +kernel
theorem dX11_earth_26 : decode cX11_earth 26 = .ok (.iload_n 1, 1) := by decide +kernel
theorem dX11_earth_27 : decode cX11_earth 27 = .ok (.putfield 80, 3) := by decide +kernel
theorem dX11_earth_30 : decode cX11_earth 30 = .ok (.iload_n 2, 1) := by decide +kernel
theorem dX11_earth_31 : decode cX11_earth 31 = .ok (.ireturn, 1) := by decide +kernel
theorem dX11_told_0 : decode cX11_told 0 = .ok (.iload_n 1, 1) := by decide +kernel
theorem dX11_told_1 : decode cX11_told 1 = .ok (.tableswitch 93 0 5 #[39, 47, 55, 63, 71, 82], 39) := by decide +kernel
theorem dX11_told_40 : decode cX11_told 40 = .ok (.aload_n 0, 1) := by decide +kernel
theorem dX11_told_41 : decode cX11_told 41 = .ok (.getfield 17, 3) := by decide +kernel
theorem dX11_told_44 : decode cX11_told 44 = .ok (.getfield 80, 3) := by decide +kernel
theorem dX11_told_47 : decode cX11_told 47 = .ok (.ireturn, 1) := by decide +kernel
theorem dX11_told_48 : decode cX11_told 48 = .ok (.aload_n 0, 1) := by decide +kernel
theorem dX11_told_49 : decode cX11_told 49 = .ok (.getfield 17, 3) := by decide +kernel
theorem dX11_told_52 : decode cX11_told 52 = .ok (.getfield 83, 3) := by decide +kernel
theorem dX11_told_55 : decode cX11_told 55 = .ok (.ireturn, 1) := by decide +kernel
theorem dX11_told_56 : decode cX11_told 56 = .ok (.aload_n 0, 1) := by decide +kernel
theorem dX11_told_57 : decode cX11_told 57 = .ok (.getfield 17, 3) := by decide +kernel
theorem dX11_told_60 : decode cX11_told 60 = .ok (.getfield 86, 3) := by decide +kernel
theorem dX11_told_63 : decode cX11_told 63 = .ok (.ireturn, 1) := by decide +kernel
theorem dX11_told_64 : decode cX11_told 64 = .ok (.aload_n 0, 1) := by decide +kernel
theorem dX11_told_65 : decode cX11_told 65 = .ok (.getfield 17, 3) := by decide +kernel
theorem dX11_told_68 : decode cX11_told 68 = .ok (.getfield 89, 3) := by decide +kernel
theorem dX11_told_71 : decode cX11_told 71 = .ok (.ireturn, 1) := by decide +kernel
theorem dX11_told_72 : decode cX11_told 72 = .ok (.aload_n 0, 1) := by decide +kernel
theorem dX11_told_73 : decode cX11_told 73 = .ok (.getfield 17, 3) := by decide +kernel
theorem dX11_told_76 : decode cX11_told 76 = .ok (.getfield 92, 3) := by decide +kernel
theorem dX11_told_79 : decode cX11_told 79 = .ok (.getfield 96, 3) := by decide +kernel
theorem dX11_told_82 : decode cX11_told 82 = .ok (.ireturn, 1) := by decide +kernel
theorem dX11_told_83 : decode cX11_told 83 = .ok (.aload_n 0, 1) := by decide +kernel
theorem dX11_told_84 : decode cX11_told 84 = .ok (.getfield 17, 3) := by decide +kernel
theorem dX11_told_87 : decode cX11_told 87 = .ok (.getfield 92, 3) := by decide +kernel
theorem dX11_told_90 : decode cX11_told 90 = .ok (.getfield 99, 3) := by decide +kernel
theorem dX11_told_93 : decode cX11_told 93 = .ok (.ireturn, 1) := by decide +kernel
theorem dX11_told_94 : decode cX11_told 94 = .ok (.iconst (-1), 1) := by decide +kernel
theorem dX11_told_95 : decode cX11_told 95 = .ok (.ireturn, 1) := by decide +kernel
set_option maxRecDepth 20000 in
theorem ggX11_man_X11_outside : GoodIn wsX11_man wsX11_outside := goodIn_r _ [6] (by decide +kernel) (by decide +kernel)
set_option maxRecDepth 20000 in
theorem gX11_man_X11_outside : GoodIn wsX11_man (va_wsS RX11 47 yX11_outside wsX11_outside) := goodIn_app (goodIn_of _ (by decide +kernel)) ggX11_man_X11_outside
set_option maxRecDepth 20000 in
theorem ggX11_man_X2_make : GoodIn wsX11_man wsX2_make := goodIn_r _ [10, 11, 12, 13, 14, 15, 16, 17, 18, 19, 20, 21, 22, 23, 24, 25, 26, 27, 28, 29, 30, 9, 31, 32, 33, 34, 35, 36, 37, 38, 39, 40, 41, 42, 43, 44, 45, 46, 47, 48, 49, 50, 51, 52, 53, 54, 55, 56, 57, 58, 59, 60, 61, 62, 63, 64, 96, 97, 98, 99, 100, 101, 102, 103, 104, 105, 106, 107, 108, 109, 110, 111, 112, 113, 114, 115, 116, 117, 118, 119, 120, 121, 122, 123] (by decide +kernel) (by decide +kernel)
set_option maxRecDepth 20000 in
theorem gX11_man_X2_make : GoodIn wsX11_man (va_wsS RX11 105 yX2_make wsX2_make) := goodIn_app (goodIn_of _ (by decide +kernel)) ggX11_man_X2_make
set_option maxRecDepth 20000 in
theorem ggX11_man_X10_hire : GoodIn wsX11_man wsX10_hire := goodIn_r _ [69, 70, 71, 72, 73, 80, 81, 82, 83, 84, 85, 86, 87, 88, 89, 90, 91, 92, 93, 94, 95, 96, 97, 98, 99, 108, 109, 110, 111, 120, 121, 122, 123, 116, 117, 118, 119, 104, 105, 106, 107, 112, 113, 114, 115, 100, 101, 102, 103] (by decide +kernel) (by decide +kernel)
set_option maxRecDepth 20000 in
theorem gX11_man_X10_hire : GoodIn wsX11_man (wsV RX11 111 RX10 yX10_hire wsX10_hire) := goodIn_app (goodIn_of _ (by decide +kernel)) ggX11_man_X10_hire
theorem dX11_man_0 : decode cX11_man 0 = .ok (.iload_n 1, 1) := by decide +kernel
theorem dX11_man_1 : decode cX11_man 1 = .ok (.iconst 0, 1) := by decide +kernel
theorem dX11_man_2 : decode cX11_man 2 = .ok (.bipush 6, 2) := by decide +kernel
theorem dX11_man_4 : decode cX11_man 4 = .ok (.invokestatic 47, 3) := by decide +kernel
theorem dX11_man_7 : decode cX11_man 7 = .ok (.ifCond .eq 5, 3) := by decide +kernel
theorem dX11_man_10 : decode cX11_man 10 = .ok (.iconst (-1), 1) := by decide +kernel
theorem dX11_man_11 : decode cX11_man 11 = .ok (.ireturn, 1) := by decide +kernel
theorem dX11_man_12 : decode cX11_man 12 = .ok (.iload_n 2, 1) := by decide +kernel
theorem dX11_man_13 : decode cX11_man 13 = .ok (.iconst 0, 1) := by decide +kernel
theorem dX11_man_14 : decode cX11_man 14 = .ok (.bipush 9, 2) := by decide +kernel
theorem dX11_man_16 : decode cX11_man 16 = .ok (.invokestatic 47, 3) := by decide +kernel
theorem dX11_man_19 : decode cX11_man 19 = .ok (.ifCond .ne 13, 3) := by decide +kernel
theorem dX11_man_22 : decode cX11_man 22 = .ok (.iload_n 3, 1) := by decide +kernel
theorem dX11_man_23 : decode cX11_man 23 = .ok (.iconst 1, 1) := by decide +kernel
theorem dX11_man_24 : decode cX11_man 24 = .ok (.bipush 20, 2) := by decide +kernel
theorem dX11_man_26 : decode cX11_man 26 = .ok (.invokestatic 47, 3) := by decide +kernel
theorem dX11_man_29 : decode cX11_man 29 = .ok (.ifCond .eq 6, 3) := by decide +kernel
theorem dX11_man_32 : decode cX11_man 32 = .ok (.bipush (-2), 2) := by decide +kernel
theorem dX11_man_34 : decode cX11_man 34 = .ok (.ireturn, 1) := by decide +kernel
theorem dX11_man_35 : decode cX11_man 35 = .ok (.aload_n 0, 1) := by decide +kernel
theorem dX11_man_36 : decode cX11_man 36 = .ok (.getfield 17, 3) := by decide +kernel
theorem dX11_man_39 : decode cX11_man 39 = .ok (.getfield 102, 3) := by decide +kernel
theorem dX11_man_42 : decode cX11_man 42 = .ok (.iconst 4, 1) := by decide +kernel
theorem dX11_man_43 : decode cX11_man 43 = .ok (.if_icmp .lt 6, 3) := by decide +kernel
theorem dX11_man_46 : decode cX11_man 46 = .ok (.bipush (-4), 2) := by decide +kernel
theorem dX11_man_48 : decode cX11_man 48 = .ok (.ireturn, 1) := by decide +kernel
theorem dX11_man_49 : decode cX11_man 49 = .ok (.aload_n 0, 1) := by decide +kernel
theorem dX11_man_50 : decode cX11_man 50 = .ok (.getfield 17, 3) := by decide +kernel
theorem dX11_man_53 : decode cX11_man 53 = .ok (.iload_n 1, 1) := by decide +kernel
theorem dX11_man_54 : decode cX11_man 54 = .ok (.aload_n 0, 1) := by decide +kernel
theorem dX11_man_55 : decode cX11_man 55 = .ok (.getfield 17, 3) := by decide +kernel
theorem dX11_man_58 : decode cX11_man 58 = .ok (.getfield 102, 3) := by decide +kernel
theorem dX11_man_61 : decode cX11_man 61 = .ok (.iload_n 2, 1) := by decide +kernel
theorem dX11_man_62 : decode cX11_man 62 = .ok (.iload_n 3, 1) := by decide +kernel
theorem dX11_man_63 : decode cX11_man 63 = .ok (.invokestatic 105, 3) := by decide +kernel
theorem dX11_man_66 : decode cX11_man 66 = .ok (.invokevirtual 111, 3) := by decide +kernel
theorem dX11_man_69 : decode cX11_man 69 = .ok (.aload_n 0, 1) := by decide +kernel
theorem dX11_man_70 : decode cX11_man 70 = .ok (.getfield 17, 3) := by decide +kernel
theorem dX11_man_73 : decode cX11_man 73 = .ok (.getfield 102, 3) := by decide +kernel
theorem dX11_man_76 : decode cX11_man 76 = .ok (.iconst 1, 1) := by decide +kernel
theorem dX11_man_77 : decode cX11_man 77 = .ok (.isub, 1) := by decide +kernel
theorem dX11_man_78 : decode cX11_man 78 = .ok (.ireturn, 1) := by decide +kernel
set_option maxRecDepth 20000 in
theorem ggX11_of_X10_find : GoodIn wsX11_of wsX10_find := goodIn_r _ [11, 12, 13, 48, 49, 50, 51, 52, 53, 54, 55, 56, 57, 58, 59, 60, 61, 62, 63] (by decide +kernel) (by decide +kernel)
set_option maxRecDepth 20000 in
theorem gX11_of_X10_find : GoodIn wsX11_of (wsV RX11 115 RX10 yX10_find wsX10_find) := goodIn_app (goodIn_of _ (by decide +kernel)) ggX11_of_X10_find
theorem dX11_of_0 : decode cX11_of 0 = .ok (.aload_n 0, 1) := by decide +kernel
theorem dX11_of_1 : decode cX11_of 1 = .ok (.getfield 17, 3) := by decide +kernel
theorem dX11_of_4 : decode cX11_of 4 = .ok (.iload_n 1, 1) := by decide +kernel
theorem dX11_of_5 : decode cX11_of 5 = .ok (.invokevirtual 115, 3) := by decide +kernel
theorem dX11_of_8 : decode cX11_of 8 = .ok (.astore_n 3, 1) := by decide +kernel
theorem dX11_of_9 : decode cX11_of 9 = .ok (.aload_n 3, 1) := by decide +kernel
theorem dX11_of_10 : decode cX11_of 10 = .ok (.ifnonnull 5, 3) := by decide +kernel
theorem dX11_of_13 : decode cX11_of 13 = .ok (.iconst (-1), 1) := by decide +kernel
theorem dX11_of_14 : decode cX11_of 14 = .ok (.ireturn, 1) := by decide +kernel
theorem dX11_of_15 : decode cX11_of 15 = .ok (.iload_n 2, 1) := by decide +kernel
theorem dX11_of_16 : decode cX11_of 16 = .ok (.tableswitch 60 0 3 #[32, 37, 42, 47], 32) := by decide +kernel
theorem dX11_of_48 : decode cX11_of 48 = .ok (.aload_n 3, 1) := by decide +kernel
theorem dX11_of_49 : decode cX11_of 49 = .ok (.getfield 119, 3) := by decide +kernel
theorem dX11_of_52 : decode cX11_of 52 = .ok (.ireturn, 1) := by decide +kernel
theorem dX11_of_53 : decode cX11_of 53 = .ok (.aload_n 3, 1) := by decide +kernel
theorem dX11_of_54 : decode cX11_of 54 = .ok (.getfield 122, 3) := by decide +kernel
theorem dX11_of_57 : decode cX11_of 57 = .ok (.ireturn, 1) := by decide +kernel
theorem dX11_of_58 : decode cX11_of 58 = .ok (.aload_n 3, 1) := by decide +kernel
theorem dX11_of_59 : decode cX11_of 59 = .ok (.getfield 125, 3) := by decide +kernel
theorem dX11_of_62 : decode cX11_of 62 = .ok (.ireturn, 1) := by decide +kernel
theorem dX11_of_63 : decode cX11_of 63 = .ok (.aload_n 0, 1) := by decide +kernel
theorem dX11_of_64 : decode cX11_of 64 = .ok (.getfield 17, 3) := by decide +kernel
theorem dX11_of_67 : decode cX11_of 67 = .ok (.getfield 128, 3) := by decide +kernel
theorem dX11_of_70 : decode cX11_of 70 = .ok (.aload_n 3, 1) := by decide +kernel
theorem dX11_of_71 : decode cX11_of 71 = .ok (.getfield 132, 3) := by decide +kernel
theorem dX11_of_74 : decode cX11_of 74 = .ok (.iaload, 1) := by decide +kernel
theorem dX11_of_75 : decode cX11_of 75 = .ok (.ireturn, 1) := by decide +kernel
theorem dX11_of_76 : decode cX11_of 76 = .ok (.iconst (-1), 1) := by decide +kernel
theorem dX11_of_77 : decode cX11_of 77 = .ok (.ireturn, 1) := by decide +kernel
set_option maxRecDepth 20000 in
theorem ggX11_round_X10_find : GoodIn wsX11_round wsX10_find := goodIn_r _ [8, 9, 10, 220, 221, 222, 223, 224, 225, 226, 227, 228, 229, 230, 231, 232, 233, 234, 235] (by decide +kernel) (by decide +kernel)
set_option maxRecDepth 20000 in
theorem gX11_round_X10_find : GoodIn wsX11_round (wsV RX11 115 RX10 yX10_find wsX10_find) := goodIn_app (goodIn_of _ (by decide +kernel)) ggX11_round_X10_find
set_option maxRecDepth 20000 in
theorem ggX11_round_X11_badLoad : GoodIn wsX11_round wsX11_badLoad := goodIn_r _ [14, 15, 16, 13, 17] (by decide +kernel) (by decide +kernel)
set_option maxRecDepth 20000 in
theorem gX11_round_X11_badLoad : GoodIn wsX11_round (va_wsS RX11 135 yX11_badLoad wsX11_badLoad) := goodIn_app (goodIn_of _ (by decide +kernel)) ggX11_round_X11_badLoad
set_option maxRecDepth 20000 in
theorem ggX11_round_X10_plan : GoodIn wsX11_round wsX10_plan := goodIn_r _ [21, 22, 23, 24, 25, 26, 27, 28, 29, 30, 31, 32, 33, 34, 7, 35, 36, 37, 38, 39, 40, 41, 42, 43, 44, 45, 46, 47, 48, 49, 50, 51, 52, 53, 54, 55, 56, 57, 58, 59, 60, 61, 62, 63, 64, 65, 66, 67, 68, 69, 70, 71, 72, 73, 74, 75, 76, 77, 78, 79, 80, 81, 82, 83, 84, 85, 86, 87, 88, 89, 90, 91, 92, 93, 94, 95, 96, 97, 98, 99, 100, 101, 102, 103, 104, 105, 106, 107, 108, 109, 110, 111, 112, 113, 114, 115, 116, 117, 118, 119, 120, 121, 122, 123, 124, 125, 126, 127, 128, 129, 130, 131, 132, 133, 134, 135, 136, 137, 138, 139, 140, 141, 142, 143, 144, 145, 146, 147, 148, 149, 150, 151, 152, 153, 154, 155, 156, 157, 158, 159, 160, 161, 162, 163, 164, 165, 166, 167, 168, 169, 170, 171, 172, 173, 174, 175, 176, 177, 178, 179, 180, 181, 182, 183, 184, 185, 186, 187, 188, 189, 190, 191, 192, 220, 221, 222, 223, 224, 225, 226, 227, 228, 229, 230, 231, 232, 233, 234, 235, 242, 243, 244, 245, 246, 247, 248, 249, 250, 251, 252, 253, 254, 255, 256, 257, 258, 259, 260, 261, 262, 263, 264, 265, 266, 267, 268, 269, 236, 237, 238, 239, 240, 241, 270, 271, 272, 273, 274, 275, 276, 277] (by decide +kernel) (by decide +kernel)
set_option maxRecDepth 20000 in
theorem gX11_round_X10_plan : GoodIn wsX11_round (wsV RX11 139 RX10 yX10_plan wsX10_plan) := goodIn_app (goodIn_of _ (by decide +kernel)) ggX11_round_X10_plan
set_option maxRecDepth 20000 in
theorem ggX11_round_X10_finish : GoodIn wsX11_round wsX10_finish := goodIn_r _ [196, 40, 25, 197, 69, 198, 31, 199, 27, 200, 201, 202, 203, 204, 7, 205, 26, 23, 36, 37, 38, 39, 66, 67, 68, 206, 207, 208, 209, 64, 210, 211, 212, 213, 22, 24, 220, 221, 222, 223, 224, 225, 226, 227, 228, 229, 230, 231, 232, 233, 234, 235, 236, 237, 238, 239, 240, 241, 242, 243, 244, 245, 246, 247, 248, 249, 250, 251, 252, 253, 254, 255, 256, 257, 258, 259, 260, 261, 262, 263, 264, 265, 266, 267, 268, 269, 270, 271, 272, 273, 274, 275, 276, 277] (by decide +kernel) (by decide +kernel)
set_option maxRecDepth 20000 in
theorem gX11_round_X10_finish : GoodIn wsX11_round (wsV RX11 143 RX10 yX10_finish wsX10_finish) := goodIn_app (goodIn_of _ (by decide +kernel)) ggX11_round_X10_finish
theorem dX11_round_0 : decode cX11_round 0 = .ok (.aload_n 0, 1) := by decide +kernel
theorem dX11_round_1 : decode cX11_round 1 = .ok (.getfield 17, 3) := by decide +kernel
theorem dX11_round_4 : decode cX11_round 4 = .ok (.iload_n 1, 1) := by decide +kernel
theorem dX11_round_5 : decode cX11_round 5 = .ok (.invokevirtual 115, 3) := by decide +kernel
theorem dX11_round_8 : decode cX11_round 8 = .ok (.astore_n 3, 1) := by decide +kernel
theorem dX11_round_9 : decode cX11_round 9 = .ok (.aload_n 3, 1) := by decide +kernel
theorem dX11_round_10 : decode cX11_round 10 = .ok (.ifnonnull 5, 3) := by decide +kernel
theorem dX11_round_13 : decode cX11_round 13 = .ok (.iconst (-1), 1) := by decide +kernel
theorem dX11_round_14 : decode cX11_round 14 = .ok (.ireturn, 1) := by decide +kernel
theorem dX11_round_15 : decode cX11_round 15 = .ok (.iload_n 2, 1) := by decide +kernel
theorem dX11_round_16 : decode cX11_round 16 = .ok (.invokestatic 135, 3) := by decide +kernel
theorem dX11_round_19 : decode cX11_round 19 = .ok (.ifCond .eq 6, 3) := by decide +kernel
theorem dX11_round_22 : decode cX11_round 22 = .ok (.bipush (-2), 2) := by decide +kernel
theorem dX11_round_24 : decode cX11_round 24 = .ok (.ireturn, 1) := by decide +kernel
theorem dX11_round_25 : decode cX11_round 25 = .ok (.aload_n 0, 1) := by decide +kernel
theorem dX11_round_26 : decode cX11_round 26 = .ok (.getfield 17, 3) := by decide +kernel
theorem dX11_round_29 : decode cX11_round 29 = .ok (.getfield 89, 3) := by decide +kernel
theorem dX11_round_32 : decode cX11_round 32 = .ok (.sipush 999, 3) := by decide +kernel
theorem dX11_round_35 : decode cX11_round 35 = .ok (.if_icmp .lt 6, 3) := by decide +kernel
theorem dX11_round_38 : decode cX11_round 38 = .ok (.bipush (-3), 2) := by decide +kernel
theorem dX11_round_40 : decode cX11_round 40 = .ok (.ireturn, 1) := by decide +kernel
theorem dX11_round_41 : decode cX11_round 41 = .ok (.aload_n 0, 1) := by decide +kernel
theorem dX11_round_42 : decode cX11_round 42 = .ok (.getfield 17, 3) := by decide +kernel
theorem dX11_round_45 : decode cX11_round 45 = .ok (.aload_n 3, 1) := by decide +kernel
theorem dX11_round_46 : decode cX11_round 46 = .ok (.iload_n 2, 1) := by decide +kernel
theorem dX11_round_47 : decode cX11_round 47 = .ok (.invokevirtual 139, 3) := by decide +kernel
theorem dX11_round_50 : decode cX11_round 50 = .ok (.astore 4, 2) := by decide +kernel
theorem dX11_round_52 : decode cX11_round 52 = .ok (.aload_n 0, 1) := by decide +kernel
theorem dX11_round_53 : decode cX11_round 53 = .ok (.getfield 17, 3) := by decide +kernel
theorem dX11_round_56 : decode cX11_round 56 = .ok (.aload_n 3, 1) := by decide +kernel
theorem dX11_round_57 : decode cX11_round 57 = .ok (.aload 4, 2) := by decide +kernel
theorem dX11_round_59 : decode cX11_round 59 = .ok (.invokevirtual 143, 3) := by decide +kernel
theorem dX11_round_62 : decode cX11_round 62 = .ok (.aload 4, 2) := by decide +kernel
theorem dX11_round_64 : decode cX11_round 64 = .ok (.getfield 147, 3) := by decide +kernel
theorem dX11_round_67 : decode cX11_round 67 = .ok (.ireturn, 1) := by decide +kernel
set_option maxRecDepth 20000 in
theorem ggX11_rest_X10_find : GoodIn wsX11_rest wsX10_find := goodIn_r _ [8, 9, 10, 34, 35, 36, 37, 38, 39, 40, 41, 42, 43, 44, 45, 46, 47, 48, 49] (by decide +kernel) (by decide +kernel)
set_option maxRecDepth 20000 in
theorem gX11_rest_X10_find : GoodIn wsX11_rest (wsV RX11 115 RX10 yX10_find wsX10_find) := goodIn_app (goodIn_of _ (by decide +kernel)) ggX11_rest_X10_find
set_option maxRecDepth 20000 in
theorem ggX11_rest_X11_outside : GoodIn wsX11_rest wsX11_outside := goodIn_r _ [14] (by decide +kernel) (by decide +kernel)
set_option maxRecDepth 20000 in
theorem gX11_rest_X11_outside : GoodIn wsX11_rest (va_wsS RX11 47 yX11_outside wsX11_outside) := goodIn_app (goodIn_of _ (by decide +kernel)) ggX11_rest_X11_outside
set_option maxRecDepth 20000 in
theorem ggX11_rest_X10_tire : GoodIn wsX11_rest wsX10_tire := goodIn_r _ [18, 19, 20, 21, 22, 23, 24, 25, 26, 27, 34, 35, 36, 37, 38, 39, 40, 41, 42, 43, 44, 45, 46, 47, 48, 49, 50, 51, 52, 53, 54, 55, 56, 57, 58, 59, 60, 61, 62, 63, 64, 65, 66, 67, 68, 69, 70, 71, 72, 73, 74, 75, 76, 77] (by decide +kernel) (by decide +kernel)
set_option maxRecDepth 20000 in
theorem gX11_rest_X10_tire : GoodIn wsX11_rest (wsV RX11 152 RX10 yX10_tire wsX10_tire) := goodIn_app (goodIn_of _ (by decide +kernel)) ggX11_rest_X10_tire
theorem dX11_rest_0 : decode cX11_rest 0 = .ok (.aload_n 0, 1) := by decide +kernel
theorem dX11_rest_1 : decode cX11_rest 1 = .ok (.getfield 17, 3) := by decide +kernel
theorem dX11_rest_4 : decode cX11_rest 4 = .ok (.iload_n 1, 1) := by decide +kernel
theorem dX11_rest_5 : decode cX11_rest 5 = .ok (.invokevirtual 115, 3) := by decide +kernel
theorem dX11_rest_8 : decode cX11_rest 8 = .ok (.astore_n 3, 1) := by decide +kernel
theorem dX11_rest_9 : decode cX11_rest 9 = .ok (.aload_n 3, 1) := by decide +kernel
theorem dX11_rest_10 : decode cX11_rest 10 = .ok (.ifnonnull 5, 3) := by decide +kernel
theorem dX11_rest_13 : decode cX11_rest 13 = .ok (.iconst (-1), 1) := by decide +kernel
theorem dX11_rest_14 : decode cX11_rest 14 = .ok (.ireturn, 1) := by decide +kernel
theorem dX11_rest_15 : decode cX11_rest 15 = .ok (.iload_n 2, 1) := by decide +kernel
theorem dX11_rest_16 : decode cX11_rest 16 = .ok (.iconst 0, 1) := by decide +kernel
theorem dX11_rest_17 : decode cX11_rest 17 = .ok (.bipush 99, 2) := by decide +kernel
theorem dX11_rest_19 : decode cX11_rest 19 = .ok (.invokestatic 47, 3) := by decide +kernel
theorem dX11_rest_22 : decode cX11_rest 22 = .ok (.ifCond .eq 6, 3) := by decide +kernel
theorem dX11_rest_25 : decode cX11_rest 25 = .ok (.bipush (-2), 2) := by decide +kernel
theorem dX11_rest_27 : decode cX11_rest 27 = .ok (.ireturn, 1) := by decide +kernel
theorem dX11_rest_28 : decode cX11_rest 28 = .ok (.aload_n 0, 1) := by decide +kernel
theorem dX11_rest_29 : decode cX11_rest 29 = .ok (.getfield 17, 3) := by decide +kernel
theorem dX11_rest_32 : decode cX11_rest 32 = .ok (.aload_n 3, 1) := by decide +kernel
theorem dX11_rest_33 : decode cX11_rest 33 = .ok (.iload_n 2, 1) := by decide +kernel
theorem dX11_rest_34 : decode cX11_rest 34 = .ok (.ineg, 1) := by decide +kernel
theorem dX11_rest_35 : decode cX11_rest 35 = .ok (.invokevirtual 152, 3) := by decide +kernel
theorem dX11_rest_38 : decode cX11_rest 38 = .ok (.aload_n 0, 1) := by decide +kernel
theorem dX11_rest_39 : decode cX11_rest 39 = .ok (.getfield 17, 3) := by decide +kernel
theorem dX11_rest_42 : decode cX11_rest 42 = .ok (.getfield 128, 3) := by decide +kernel
theorem dX11_rest_45 : decode cX11_rest 45 = .ok (.aload_n 3, 1) := by decide +kernel
theorem dX11_rest_46 : decode cX11_rest 46 = .ok (.getfield 132, 3) := by decide +kernel
theorem dX11_rest_49 : decode cX11_rest 49 = .ok (.iaload, 1) := by decide +kernel
theorem dX11_rest_50 : decode cX11_rest 50 = .ok (.ireturn, 1) := by decide +kernel
set_option maxRecDepth 20000 in
theorem ggX11_run_X10_find : GoodIn wsX11_run wsX10_find := goodIn_r _ [12, 13, 14, 233, 234, 235, 236, 237, 238, 239, 240, 241, 242, 243, 244, 245, 246, 247, 248] (by decide +kernel) (by decide +kernel)
set_option maxRecDepth 20000 in
theorem gX11_run_X10_find : GoodIn wsX11_run (wsV RX11 115 RX10 yX10_find wsX10_find) := goodIn_app (goodIn_of _ (by decide +kernel)) ggX11_run_X10_find
set_option maxRecDepth 20000 in
theorem ggX11_run_X11_outside : GoodIn wsX11_run wsX11_outside := goodIn_r _ [18] (by decide +kernel) (by decide +kernel)
set_option maxRecDepth 20000 in
theorem gX11_run_X11_outside : GoodIn wsX11_run (va_wsS RX11 47 yX11_outside wsX11_outside) := goodIn_app (goodIn_of _ (by decide +kernel)) ggX11_run_X11_outside
set_option maxRecDepth 20000 in
theorem ggX11_run_X11_badLoad : GoodIn wsX11_run wsX11_badLoad := goodIn_r _ [21, 15, 16, 17, 18] (by decide +kernel) (by decide +kernel)
set_option maxRecDepth 20000 in
theorem gX11_run_X11_badLoad : GoodIn wsX11_run (va_wsS RX11 135 yX11_badLoad wsX11_badLoad) := goodIn_app (goodIn_of _ (by decide +kernel)) ggX11_run_X11_badLoad
set_option maxRecDepth 20000 in
theorem ggX11_run_X10_take : GoodIn wsX11_run wsX10_take := goodIn_r _ [25, 26, 27, 28, 29, 30, 14, 31, 13, 32, 33, 34, 35, 36, 37, 38, 39, 40, 11, 41, 42, 43, 233, 234, 235, 236, 237, 238, 239, 240, 241, 242, 243, 244, 245, 246, 247, 248, 277, 278, 279, 280, 281, 282] (by decide +kernel) (by decide +kernel)
set_option maxRecDepth 20000 in
theorem gX11_run_X10_take : GoodIn wsX11_run (wsV RX11 155 RX10 yX10_take wsX10_take) := goodIn_app (goodIn_of _ (by decide +kernel)) ggX11_run_X10_take
set_option maxRecDepth 20000 in
theorem ggX11_run_X10_plan : GoodIn wsX11_run wsX10_plan := goodIn_r _ [47, 42, 48, 43, 49, 31, 36, 50, 51, 52, 53, 54, 55, 56, 11, 57, 58, 59, 60, 61, 32, 62, 63, 64, 65, 66, 67, 68, 69, 70, 71, 72, 73, 74, 75, 76, 77, 78, 79, 80, 81, 82, 83, 84, 26, 85, 86, 87, 88, 89, 90, 91, 92, 93, 94, 95, 96, 97, 98, 99, 100, 101, 102, 103, 104, 105, 106, 107, 108, 109, 110, 111, 112, 113, 114, 115, 116, 117, 118, 119, 120, 121, 122, 123, 124, 125, 126, 127, 128, 129, 130, 131, 132, 133, 134, 135, 136, 137, 138, 139, 140, 141, 142, 143, 144, 145, 146, 147, 148, 149, 150, 151, 152, 153, 154, 155, 156, 157, 158, 159, 160, 161, 162, 163, 164, 165, 166, 167, 168, 169, 170, 171, 172, 173, 174, 175, 176, 177, 178, 179, 180, 181, 182, 183, 184, 185, 186, 187, 188, 189, 190, 191, 192, 193, 194, 195, 196, 197, 198, 199, 200, 201, 202, 203, 204, 205, 206, 207, 208, 209, 210, 211, 212, 233, 234, 235, 236, 237, 238, 239, 240, 241, 242, 243, 244, 245, 246, 247, 248, 249, 250, 251, 252, 253, 254, 255, 256, 257, 258, 259, 260, 261, 262, 263, 264, 265, 266, 267, 268, 269, 270, 271, 272, 273, 274, 275, 276, 277, 278, 279, 280, 281, 282, 283, 284, 285, 286, 287, 288, 289, 290] (by decide +kernel) (by decide +kernel)
set_option maxRecDepth 20000 in
theorem gX11_run_X10_plan : GoodIn wsX11_run (wsV RX11 139 RX10 yX10_plan wsX10_plan) := goodIn_app (goodIn_of _ (by decide +kernel)) ggX11_run_X10_plan
set_option maxRecDepth 20000 in
theorem ggX11_run_X10_finish : GoodIn wsX11_run wsX10_finish := goodIn_r _ [216, 32, 49, 33, 89, 34, 53, 217, 36, 218, 35, 219, 220, 221, 11, 222, 31, 48, 58, 59, 60, 61, 86, 87, 88, 223, 224, 225, 226, 26, 38, 39, 40, 41, 42, 43, 233, 234, 235, 236, 237, 238, 239, 240, 241, 242, 243, 244, 245, 246, 247, 248, 277, 278, 279, 280, 281, 282, 249, 250, 251, 252, 253, 254, 255, 256, 257, 258, 259, 260, 261, 262, 263, 264, 265, 266, 267, 268, 269, 270, 271, 272, 273, 274, 275, 276, 283, 284, 285, 286, 287, 288, 289, 290] (by decide +kernel) (by decide +kernel)
set_option maxRecDepth 20000 in
theorem gX11_run_X10_finish : GoodIn wsX11_run (wsV RX11 143 RX10 yX10_finish wsX10_finish) := goodIn_app (goodIn_of _ (by decide +kernel)) ggX11_run_X10_finish
theorem dX11_run_0 : decode cX11_run 0 = .ok (.aload_n 0, 1) := by decide +kernel
theorem dX11_run_1 : decode cX11_run 1 = .ok (.getfield 17, 3) := by decide +kernel
theorem dX11_run_4 : decode cX11_run 4 = .ok (.iload_n 1, 1) := by decide +kernel
theorem dX11_run_5 : decode cX11_run 5 = .ok (.invokevirtual 115, 3) := by decide +kernel
theorem dX11_run_8 : decode cX11_run 8 = .ok (.astore 5, 2) := by decide +kernel
theorem dX11_run_10 : decode cX11_run 10 = .ok (.aload 5, 2) := by decide +kernel
theorem dX11_run_12 : decode cX11_run 12 = .ok (.ifnull 13, 3) := by decide +kernel
theorem dX11_run_15 : decode cX11_run 15 = .ok (.iload 4, 2) := by decide +kernel
theorem dX11_run_17 : decode cX11_run 17 = .ok (.iconst 0, 1) := by decide +kernel
theorem dX11_run_18 : decode cX11_run 18 = .ok (.iconst 3, 1) := by decide +kernel
theorem dX11_run_19 : decode cX11_run 19 = .ok (.invokestatic 47, 3) := by decide +kernel
theorem dX11_run_22 : decode cX11_run 22 = .ok (.ifCond .eq 7, 3) := by decide +kernel
theorem dX11_run_25 : decode cX11_run 25 = .ok (.sipush (-1001), 3) := by decide +kernel
theorem dX11_run_28 : decode cX11_run 28 = .ok (.ireturn, 1) := by decide +kernel
theorem dX11_run_29 : decode cX11_run 29 = .ok (.iload_n 2, 1) := by decide +kernel
theorem dX11_run_30 : decode cX11_run 30 = .ok (.iconst 0, 1) := by decide +kernel
theorem dX11_run_31 : decode cX11_run 31 = .ok (.bipush 30, 2) := by decide +kernel
theorem dX11_run_33 : decode cX11_run 33 = .ok (.invokestatic 47, 3) := by decide +kernel
theorem dX11_run_36 : decode cX11_run 36 = .ok (.ifCond .ne 10, 3) := by decide +kernel
theorem dX11_run_39 : decode cX11_run 39 = .ok (.iload_n 3, 1) := by decide +kernel
theorem dX11_run_40 : decode cX11_run 40 = .ok (.invokestatic 135, 3) := by decide +kernel
theorem dX11_run_43 : decode cX11_run 43 = .ok (.ifCond .eq 7, 3) := by decide +kernel
theorem dX11_run_46 : decode cX11_run 46 = .ok (.sipush (-1002), 3) := by decide +kernel
theorem dX11_run_49 : decode cX11_run 49 = .ok (.ireturn, 1) := by decide +kernel
theorem dX11_run_50 : decode cX11_run 50 = .ok (.aload_n 0, 1) := by decide +kernel
theorem dX11_run_51 : decode cX11_run 51 = .ok (.getfield 26, 3) := by decide +kernel
theorem dX11_run_54 : decode cX11_run 54 = .ok (.aload_n 0, 1) := by decide +kernel
theorem dX11_run_55 : decode cX11_run 55 = .ok (.getfield 17, 3) := by decide +kernel
theorem dX11_run_58 : decode cX11_run 58 = .ok (.invokevirtual 155, 3) := by decide +kernel
theorem dX11_run_61 : decode cX11_run 61 = .ok (.iconst 0, 1) := by decide +kernel
theorem dX11_run_62 : decode cX11_run 62 = .ok (.istore 6, 2) := by decide +kernel
theorem dX11_run_64 : decode cX11_run 64 = .ok (.iload 6, 2) := by decide +kernel
theorem dX11_run_66 : decode cX11_run 66 = .ok (.iload_n 2, 1) := by decide +kernel
theorem dX11_run_67 : decode cX11_run 67 = .ok (.if_icmp .ge 28, 3) := by decide +kernel
theorem dX11_run_70 : decode cX11_run 70 = .ok (.aload_n 0, 1) := by decide +kernel
theorem dX11_run_71 : decode cX11_run 71 = .ok (.getfield 26, 3) := by decide +kernel
theorem dX11_run_74 : decode cX11_run 74 = .ok (.aload 5, 2) := by decide +kernel
theorem dX11_run_76 : decode cX11_run 76 = .ok (.aload_n 0, 1) := by decide +kernel
theorem dX11_run_77 : decode cX11_run 77 = .ok (.getfield 26, 3) := by decide +kernel
theorem dX11_run_80 : decode cX11_run 80 = .ok (.aload 5, 2) := by decide +kernel
theorem dX11_run_82 : decode cX11_run 82 = .ok (.iload_n 3, 1) := by decide +kernel
theorem dX11_run_83 : decode cX11_run 83 = .ok (.invokevirtual 139, 3) := by decide +kernel
theorem dX11_run_86 : decode cX11_run 86 = .ok (.invokevirtual 143, 3) := by decide +kernel
theorem dX11_run_89 : decode cX11_run 89 = .ok (.iinc 6 1, 3) := by decide +kernel
theorem dX11_run_92 : decode cX11_run 92 = .ok (.goto (-28), 3) := by decide +kernel
theorem dX11_run_95 : decode cX11_run 95 = .ok (.aload_n 0, 1) := by decide +kernel
theorem dX11_run_96 : decode cX11_run 96 = .ok (.getfield 26, 3) := by decide +kernel
theorem dX11_run_99 : decode cX11_run 99 = .ok (.getfield 83, 3) := by decide +kernel
theorem dX11_run_102 : decode cX11_run 102 = .ok (.aload_n 0, 1) := by decide +kernel
theorem dX11_run_103 : decode cX11_run 103 = .ok (.getfield 17, 3) := by decide +kernel
theorem dX11_run_106 : decode cX11_run 106 = .ok (.getfield 83, 3) := by decide +kernel
theorem dX11_run_109 : decode cX11_run 109 = .ok (.isub, 1) := by decide +kernel
theorem dX11_run_110 : decode cX11_run 110 = .ok (.istore 6, 2) := by decide +kernel
theorem dX11_run_112 : decode cX11_run 112 = .ok (.iload 4, 2) := by decide +kernel
theorem dX11_run_114 : decode cX11_run 114 = .ok (.tableswitch 59 0 2 #[26, 29, 45], 26) := by decide +kernel
theorem dX11_run_140 : decode cX11_run 140 = .ok (.iload 6, 2) := by decide +kernel
theorem dX11_run_142 : decode cX11_run 142 = .ok (.ireturn, 1) := by decide +kernel
theorem dX11_run_143 : decode cX11_run 143 = .ok (.aload_n 0, 1) := by decide +kernel
theorem dX11_run_144 : decode cX11_run 144 = .ok (.getfield 26, 3) := by decide +kernel
theorem dX11_run_147 : decode cX11_run 147 = .ok (.getfield 86, 3) := by decide +kernel
theorem dX11_run_150 : decode cX11_run 150 = .ok (.aload_n 0, 1) := by decide +kernel
theorem dX11_run_151 : decode cX11_run 151 = .ok (.getfield 17, 3) := by decide +kernel
theorem dX11_run_154 : decode cX11_run 154 = .ok (.getfield 86, 3) := by decide +kernel
theorem dX11_run_157 : decode cX11_run 157 = .ok (.isub, 1) := by decide +kernel
theorem dX11_run_158 : decode cX11_run 158 = .ok (.ireturn, 1) := by decide +kernel
theorem dX11_run_159 : decode cX11_run 159 = .ok (.aload_n 0, 1) := by decide +kernel
theorem dX11_run_160 : decode cX11_run 160 = .ok (.getfield 26, 3) := by decide +kernel
theorem dX11_run_163 : decode cX11_run 163 = .ok (.getfield 128, 3) := by decide +kernel
theorem dX11_run_166 : decode cX11_run 166 = .ok (.aload 5, 2) := by decide +kernel
theorem dX11_run_168 : decode cX11_run 168 = .ok (.getfield 132, 3) := by decide +kernel
theorem dX11_run_171 : decode cX11_run 171 = .ok (.iaload, 1) := by decide +kernel
theorem dX11_run_172 : decode cX11_run 172 = .ok (.ireturn, 1) := by decide +kernel
theorem dX11_run_173 : decode cX11_run 173 = .ok (.aload_n 0, 1) := by decide +kernel
theorem dX11_run_174 : decode cX11_run 174 = .ok (.getfield 17, 3) := by decide +kernel
theorem dX11_run_177 : decode cX11_run 177 = .ok (.getfield 80, 3) := by decide +kernel
theorem dX11_run_180 : decode cX11_run 180 = .ok (.aload_n 0, 1) := by decide +kernel
theorem dX11_run_181 : decode cX11_run 181 = .ok (.getfield 26, 3) := by decide +kernel
theorem dX11_run_184 : decode cX11_run 184 = .ok (.getfield 80, 3) := by decide +kernel
theorem dX11_run_187 : decode cX11_run 187 = .ok (.isub, 1) := by decide +kernel
theorem dX11_run_188 : decode cX11_run 188 = .ok (.iload 6, 2) := by decide +kernel
theorem dX11_run_190 : decode cX11_run 190 = .ok (.isub, 1) := by decide +kernel
theorem dX11_run_191 : decode cX11_run 191 = .ok (.ireturn, 1) := by decide +kernel
set_option maxRecDepth 20000 in
theorem ggX11_by_X10_find : GoodIn wsX11_by wsX10_find := goodIn_r _ [6, 7, 8, 237, 238, 239, 240, 241, 242, 243, 244, 245, 246, 247, 248, 249, 250, 251, 252] (by decide +kernel) (by decide +kernel)
set_option maxRecDepth 20000 in
theorem gX11_by_X10_find : GoodIn wsX11_by (wsV RX11 115 RX10 yX10_find wsX10_find) := goodIn_app (goodIn_of _ (by decide +kernel)) ggX11_by_X10_find
set_option maxRecDepth 20000 in
theorem ggX11_by_X11_badLoad : GoodIn wsX11_by wsX11_badLoad := goodIn_r _ [12, 13, 14, 11, 15] (by decide +kernel) (by decide +kernel)
set_option maxRecDepth 20000 in
theorem gX11_by_X11_badLoad : GoodIn wsX11_by (va_wsS RX11 135 yX11_badLoad wsX11_badLoad) := goodIn_app (goodIn_of _ (by decide +kernel)) ggX11_by_X11_badLoad
set_option maxRecDepth 20000 in
theorem ggX11_by_X11_outside : GoodIn wsX11_by wsX11_outside := goodIn_r _ [15] (by decide +kernel) (by decide +kernel)
set_option maxRecDepth 20000 in
theorem gX11_by_X11_outside : GoodIn wsX11_by (va_wsS RX11 47 yX11_outside wsX11_outside) := goodIn_app (goodIn_of _ (by decide +kernel)) ggX11_by_X11_outside
set_option maxRecDepth 20000 in
theorem ggX11_by_X11_overBy : GoodIn wsX11_by wsX11_overBy := goodIn_r _ [19, 20, 1, 21, 22, 23, 24, 5, 25, 26, 27, 28, 29, 30, 8, 31, 7, 32, 33, 34, 35, 36, 37, 38, 39, 40, 41, 42, 43, 44, 45, 46, 47, 48, 49, 50, 51, 52, 53, 54, 55, 56, 57, 58, 59, 60, 61, 62, 63, 64, 65, 66, 67, 68, 69, 70, 71, 72, 73, 74, 75, 76, 77, 78, 79, 80, 81, 82, 83, 84, 85, 86, 87, 88, 89, 90, 91, 92, 93, 94, 95, 96, 97, 98, 99, 100, 101, 102, 103, 104, 105, 106, 107, 108, 109, 110, 111, 112, 113, 114, 115, 116, 117, 118, 119, 120, 121, 122, 123, 124, 125, 126, 127, 128, 129, 130, 131, 132, 133, 134, 135, 136, 137, 138, 139, 140, 141, 142, 143, 144, 145, 146, 147, 148, 149, 150, 151, 152, 153, 154, 155, 156, 157, 158, 159, 160, 161, 162, 163, 164, 165, 166, 167, 168, 169, 170, 171, 172, 173, 174, 175, 176, 177, 178, 179, 180, 181, 182, 183, 184, 185, 186, 187, 188, 189, 190, 191, 192, 193, 194, 195, 196, 197, 198, 199, 200, 201, 202, 203, 204, 205, 206, 207, 208, 209, 210, 211, 212, 213, 214, 215, 216, 217, 218, 219, 220, 221, 222, 223, 224, 225, 226, 227, 228, 229, 230, 231, 232, 233, 234, 235, 236, 237, 238, 239, 240, 241, 242, 243, 244, 245, 246, 247, 248, 249, 250, 251, 252, 253, 254, 255, 256, 257, 258, 259, 260, 261, 262, 263, 264, 265, 266, 267, 268, 269, 270, 271, 272, 273, 274, 275, 276, 277, 278, 279, 280, 281, 282, 283, 284, 285, 286, 287, 288, 289, 290, 291, 292, 293, 294] (by decide +kernel) (by decide +kernel)
set_option maxRecDepth 20000 in
theorem gX11_by_X11_overBy : GoodIn wsX11_by (wsV RX11 159 RX11 yX11_overBy wsX11_overBy) := goodIn_app (goodIn_of _ (by decide +kernel)) ggX11_by_X11_overBy
theorem dX11_by_0 : decode cX11_by 0 = .ok (.aload_n 0, 1) := by decide +kernel
theorem dX11_by_1 : decode cX11_by 1 = .ok (.getfield 17, 3) := by decide +kernel
theorem dX11_by_4 : decode cX11_by 4 = .ok (.iload_n 1, 1) := by decide +kernel
theorem dX11_by_5 : decode cX11_by 5 = .ok (.invokevirtual 115, 3) := by decide +kernel
theorem dX11_by_8 : decode cX11_by 8 = .ok (.astore 4, 2) := by decide +kernel
theorem dX11_by_10 : decode cX11_by 10 = .ok (.aload 4, 2) := by decide +kernel
theorem dX11_by_12 : decode cX11_by 12 = .ok (.ifnonnull 5, 3) := by decide +kernel
theorem dX11_by_15 : decode cX11_by 15 = .ok (.iconst (-1), 1) := by decide +kernel
theorem dX11_by_16 : decode cX11_by 16 = .ok (.ireturn, 1) := by decide +kernel
theorem dX11_by_17 : decode cX11_by 17 = .ok (.iload_n 2, 1) := by decide +kernel
theorem dX11_by_18 : decode cX11_by 18 = .ok (.invokestatic 135, 3) := by decide +kernel
theorem dX11_by_21 : decode cX11_by 21 = .ok (.ifCond .ne 14, 3) := by decide +kernel
theorem dX11_by_24 : decode cX11_by 24 = .ok (.iload_n 3, 1) := by decide +kernel
theorem dX11_by_25 : decode cX11_by 25 = .ok (.iconst 0, 1) := by decide +kernel
theorem dX11_by_26 : decode cX11_by 26 = .ok (.sipush 9999, 3) := by decide +kernel
theorem dX11_by_29 : decode cX11_by 29 = .ok (.invokestatic 47, 3) := by decide +kernel
theorem dX11_by_32 : decode cX11_by 32 = .ok (.ifCond .eq 6, 3) := by decide +kernel
theorem dX11_by_35 : decode cX11_by 35 = .ok (.bipush (-2), 2) := by decide +kernel
theorem dX11_by_37 : decode cX11_by 37 = .ok (.ireturn, 1) := by decide +kernel
theorem dX11_by_38 : decode cX11_by 38 = .ok (.aload_n 0, 1) := by decide +kernel
theorem dX11_by_39 : decode cX11_by 39 = .ok (.aload 4, 2) := by decide +kernel
theorem dX11_by_41 : decode cX11_by 41 = .ok (.iload_n 2, 1) := by decide +kernel
theorem dX11_by_42 : decode cX11_by 42 = .ok (.iload_n 3, 1) := by decide +kernel
theorem dX11_by_43 : decode cX11_by 43 = .ok (.invokevirtual 159, 3) := by decide +kernel
theorem dX11_by_46 : decode cX11_by 46 = .ok (.ireturn, 1) := by decide +kernel
set_option maxRecDepth 20000 in
theorem ggX11_full_X10_find : GoodIn wsX11_full wsX10_find := goodIn_r _ [6, 7, 8, 234, 235, 236, 237, 238, 239, 240, 241, 242, 243, 244, 245, 246, 247, 248, 249] (by decide +kernel) (by decide +kernel)
set_option maxRecDepth 20000 in
theorem gX11_full_X10_find : GoodIn wsX11_full (wsV RX11 115 RX10 yX10_find wsX10_find) := goodIn_app (goodIn_of _ (by decide +kernel)) ggX11_full_X10_find
set_option maxRecDepth 20000 in
theorem ggX11_full_X11_outside : GoodIn wsX11_full wsX11_outside := goodIn_r _ [12] (by decide +kernel) (by decide +kernel)
set_option maxRecDepth 20000 in
theorem gX11_full_X11_outside : GoodIn wsX11_full (va_wsS RX11 47 yX11_outside wsX11_outside) := goodIn_app (goodIn_of _ (by decide +kernel)) ggX11_full_X11_outside
set_option maxRecDepth 20000 in
theorem ggX11_full_X11_overBy : GoodIn wsX11_full wsX11_overBy := goodIn_r _ [16, 17, 1, 18, 19, 20, 21, 5, 22, 23, 24, 25, 26, 27, 8, 28, 7, 29, 30, 31, 32, 33, 34, 35, 36, 37, 38, 39, 40, 41, 42, 43, 44, 45, 46, 47, 48, 49, 50, 51, 52, 53, 54, 55, 56, 57, 58, 59, 60, 61, 62, 63, 64, 65, 66, 67, 68, 69, 70, 71, 72, 73, 74, 75, 76, 77, 78, 79, 80, 81, 82, 83, 84, 85, 86, 87, 88, 89, 90, 91, 92, 93, 94, 95, 96, 97, 98, 99, 100, 101, 102, 103, 104, 105, 106, 107, 108, 109, 110, 111, 112, 113, 114, 115, 116, 117, 118, 119, 120, 121, 122, 123, 124, 125, 126, 127, 128, 129, 130, 131, 132, 133, 134, 135, 136, 137, 138, 139, 140, 141, 142, 143, 144, 145, 146, 147, 148, 149, 150, 151, 152, 153, 154, 155, 156, 157, 158, 159, 160, 161, 162, 163, 164, 165, 166, 167, 168, 169, 170, 171, 172, 173, 174, 175, 176, 177, 178, 179, 180, 181, 182, 183, 184, 185, 186, 187, 188, 189, 190, 191, 192, 193, 194, 195, 196, 197, 198, 199, 200, 201, 202, 203, 204, 205, 206, 207, 208, 209, 210, 211, 212, 213, 214, 215, 216, 217, 218, 219, 220, 221, 222, 223, 224, 225, 226, 227, 228, 229, 230, 231, 232, 233, 234, 235, 236, 237, 238, 239, 240, 241, 242, 243, 244, 245, 246, 247, 248, 249, 250, 251, 252, 253, 254, 255, 256, 257, 258, 259, 260, 261, 262, 263, 264, 265, 266, 267, 268, 269, 270, 271, 272, 273, 274, 275, 276, 277, 278, 279, 280, 281, 282, 283, 284, 285, 286, 287, 288, 289, 290, 291] (by decide +kernel) (by decide +kernel)
set_option maxRecDepth 20000 in
theorem gX11_full_X11_overBy : GoodIn wsX11_full (wsV RX11 159 RX11 yX11_overBy wsX11_overBy) := goodIn_app (goodIn_of _ (by decide +kernel)) ggX11_full_X11_overBy
theorem dX11_full_0 : decode cX11_full 0 = .ok (.aload_n 0, 1) := by decide +kernel
theorem dX11_full_1 : decode cX11_full 1 = .ok (.getfield 17, 3) := by decide +kernel
theorem dX11_full_4 : decode cX11_full 4 = .ok (.iload_n 1, 1) := by decide +kernel
theorem dX11_full_5 : decode cX11_full 5 = .ok (.invokevirtual 115, 3) := by decide +kernel
theorem dX11_full_8 : decode cX11_full 8 = .ok (.astore_n 3, 1) := by decide +kernel
theorem dX11_full_9 : decode cX11_full 9 = .ok (.aload_n 3, 1) := by decide +kernel
theorem dX11_full_10 : decode cX11_full 10 = .ok (.ifnonnull 5, 3) := by decide +kernel
theorem dX11_full_13 : decode cX11_full 13 = .ok (.iconst (-1), 1) := by decide +kernel
theorem dX11_full_14 : decode cX11_full 14 = .ok (.ireturn, 1) := by decide +kernel
theorem dX11_full_15 : decode cX11_full 15 = .ok (.iload_n 2, 1) := by decide +kernel
theorem dX11_full_16 : decode cX11_full 16 = .ok (.iconst 0, 1) := by decide +kernel
theorem dX11_full_17 : decode cX11_full 17 = .ok (.sipush 9999, 3) := by decide +kernel
theorem dX11_full_20 : decode cX11_full 20 = .ok (.invokestatic 47, 3) := by decide +kernel
theorem dX11_full_23 : decode cX11_full 23 = .ok (.ifCond .eq 6, 3) := by decide +kernel
theorem dX11_full_26 : decode cX11_full 26 = .ok (.bipush (-2), 2) := by decide +kernel
theorem dX11_full_28 : decode cX11_full 28 = .ok (.ireturn, 1) := by decide +kernel
theorem dX11_full_29 : decode cX11_full 29 = .ok (.iconst 1, 1) := by decide +kernel
theorem dX11_full_30 : decode cX11_full 30 = .ok (.istore 4, 2) := by decide +kernel
theorem dX11_full_32 : decode cX11_full 32 = .ok (.aload_n 0, 1) := by decide +kernel
theorem dX11_full_33 : decode cX11_full 33 = .ok (.aload_n 3, 1) := by decide +kernel
theorem dX11_full_34 : decode cX11_full 34 = .ok (.iconst 1, 1) := by decide +kernel
theorem dX11_full_35 : decode cX11_full 35 = .ok (.iload_n 2, 1) := by decide +kernel
theorem dX11_full_36 : decode cX11_full 36 = .ok (.invokevirtual 159, 3) := by decide +kernel
theorem dX11_full_39 : decode cX11_full 39 = .ok (.istore 5, 2) := by decide +kernel
theorem dX11_full_41 : decode cX11_full 41 = .ok (.iconst 2, 1) := by decide +kernel
theorem dX11_full_42 : decode cX11_full 42 = .ok (.istore 6, 2) := by decide +kernel
theorem dX11_full_44 : decode cX11_full 44 = .ok (.iload 6, 2) := by decide +kernel
theorem dX11_full_46 : decode cX11_full 46 = .ok (.bipush 20, 2) := by decide +kernel
theorem dX11_full_48 : decode cX11_full 48 = .ok (.if_icmp .gt 34, 3) := by decide +kernel
theorem dX11_full_51 : decode cX11_full 51 = .ok (.aload_n 0, 1) := by decide +kernel
theorem dX11_full_52 : decode cX11_full 52 = .ok (.aload_n 3, 1) := by decide +kernel
theorem dX11_full_53 : decode cX11_full 53 = .ok (.iload 6, 2) := by decide +kernel
theorem dX11_full_55 : decode cX11_full 55 = .ok (.iload_n 2, 1) := by decide +kernel
theorem dX11_full_56 : decode cX11_full 56 = .ok (.invokevirtual 159, 3) := by decide +kernel
theorem dX11_full_59 : decode cX11_full 59 = .ok (.istore 7, 2) := by decide +kernel
theorem dX11_full_61 : decode cX11_full 61 = .ok (.iload 7, 2) := by decide +kernel
theorem dX11_full_63 : decode cX11_full 63 = .ok (.iload 5, 2) := by decide +kernel
theorem dX11_full_65 : decode cX11_full 65 = .ok (.if_icmp .le 11, 3) := by decide +kernel
theorem dX11_full_68 : decode cX11_full 68 = .ok (.iload 7, 2) := by decide +kernel
theorem dX11_full_70 : decode cX11_full 70 = .ok (.istore 5, 2) := by decide +kernel
theorem dX11_full_72 : decode cX11_full 72 = .ok (.iload 6, 2) := by decide +kernel
theorem dX11_full_74 : decode cX11_full 74 = .ok (.istore 4, 2) := by decide +kernel
theorem dX11_full_76 : decode cX11_full 76 = .ok (.iinc 6 1, 3) := by decide +kernel
theorem dX11_full_79 : decode cX11_full 79 = .ok (.goto (-35), 3) := by decide +kernel
theorem dX11_full_82 : decode cX11_full 82 = .ok (.iload 4, 2) := by decide +kernel
theorem dX11_full_84 : decode cX11_full 84 = .ok (.ireturn, 1) := by decide +kernel
set_option maxRecDepth 20000 in
theorem ggX11_boards_X10_find : GoodIn wsX11_boards wsX10_find := goodIn_r _ [8, 9, 10, 239, 240, 241, 242, 243, 244, 245, 246, 247, 248, 249, 250, 251, 252, 253, 254] (by decide +kernel) (by decide +kernel)
set_option maxRecDepth 20000 in
theorem gX11_boards_X10_find : GoodIn wsX11_boards (wsV RX11 115 RX10 yX10_find wsX10_find) := goodIn_app (goodIn_of _ (by decide +kernel)) ggX11_boards_X10_find
set_option maxRecDepth 20000 in
theorem ggX11_boards_X11_outside : GoodIn wsX11_boards wsX11_outside := goodIn_r _ [14] (by decide +kernel) (by decide +kernel)
set_option maxRecDepth 20000 in
theorem gX11_boards_X11_outside : GoodIn wsX11_boards (va_wsS RX11 47 yX11_outside wsX11_outside) := goodIn_app (goodIn_of _ (by decide +kernel)) ggX11_boards_X11_outside
set_option maxRecDepth 20000 in
theorem ggX11_boards_X11_badLoad : GoodIn wsX11_boards wsX11_badLoad := goodIn_r _ [17, 11, 12, 13, 14] (by decide +kernel) (by decide +kernel)
set_option maxRecDepth 20000 in
theorem gX11_boards_X11_badLoad : GoodIn wsX11_boards (va_wsS RX11 135 yX11_badLoad wsX11_badLoad) := goodIn_app (goodIn_of _ (by decide +kernel)) ggX11_boards_X11_badLoad
set_option maxRecDepth 20000 in
theorem ggX11_boards_X10_take : GoodIn wsX11_boards wsX10_take := goodIn_r _ [21, 22, 23, 24, 25, 26, 10, 27, 9, 28, 29, 30, 31, 32, 33, 34, 35, 36, 7, 37, 38, 39, 239, 240, 241, 242, 243, 244, 245, 246, 247, 248, 249, 250, 251, 252, 253, 254, 233, 234, 235, 236, 237, 238] (by decide +kernel) (by decide +kernel)
set_option maxRecDepth 20000 in
theorem gX11_boards_X10_take : GoodIn wsX11_boards (wsV RX11 155 RX10 yX10_take wsX10_take) := goodIn_app (goodIn_of _ (by decide +kernel)) ggX11_boards_X10_take
set_option maxRecDepth 20000 in
theorem ggX11_boards_X10_plan : GoodIn wsX11_boards wsX10_plan := goodIn_r _ [43, 38, 44, 39, 45, 27, 32, 46, 47, 48, 49, 50, 51, 52, 7, 53, 54, 55, 56, 57, 28, 58, 59, 60, 61, 62, 63, 64, 65, 66, 67, 68, 69, 70, 71, 72, 73, 74, 75, 76, 77, 78, 79, 80, 22, 81, 82, 83, 84, 85, 86, 87, 88, 89, 90, 91, 92, 93, 94, 95, 96, 97, 98, 99, 100, 101, 102, 103, 104, 105, 106, 107, 108, 109, 110, 111, 112, 113, 114, 115, 116, 117, 118, 119, 120, 121, 122, 123, 124, 125, 126, 127, 128, 129, 130, 131, 132, 133, 134, 135, 136, 137, 138, 139, 140, 141, 142, 143, 144, 145, 146, 147, 148, 149, 150, 151, 152, 153, 154, 155, 156, 157, 158, 159, 160, 161, 162, 163, 164, 165, 166, 167, 168, 169, 170, 171, 172, 173, 174, 175, 176, 177, 178, 179, 180, 181, 182, 183, 184, 185, 186, 187, 188, 189, 190, 191, 192, 193, 194, 195, 196, 197, 198, 199, 200, 201, 202, 203, 204, 205, 206, 207, 208, 239, 240, 241, 242, 243, 244, 245, 246, 247, 248, 249, 250, 251, 252, 253, 254, 255, 256, 257, 258, 259, 260, 261, 262, 263, 264, 265, 266, 267, 268, 269, 270, 271, 272, 273, 274, 275, 276, 277, 278, 279, 280, 281, 282, 233, 234, 235, 236, 237, 238, 283, 284, 285, 286, 287, 288, 289, 290] (by decide +kernel) (by decide +kernel)
set_option maxRecDepth 20000 in
theorem gX11_boards_X10_plan : GoodIn wsX11_boards (wsV RX11 139 RX10 yX10_plan wsX10_plan) := goodIn_app (goodIn_of _ (by decide +kernel)) ggX11_boards_X10_plan
set_option maxRecDepth 20000 in
theorem ggX11_boards_J6_bitCount_0f7a4 : GoodIn wsX11_boards wsJ6_bitCount_0f7a4 := goodIn_r _ [211, 212, 213, 214] (by decide +kernel) (by decide +kernel)
set_option maxRecDepth 20000 in
theorem gX11_boards_J6_bitCount_0f7a4 : GoodIn wsX11_boards (va_wsS RX11 163 yJ6_bitCount_0f7a4 wsJ6_bitCount_0f7a4) := goodIn_app (goodIn_of _ (by decide +kernel)) ggX11_boards_J6_bitCount_0f7a4
set_option maxRecDepth 20000 in
theorem ggX11_boards_X10_isBare : GoodIn wsX11_boards wsX10_isBare := goodIn_r _ [218, 22, 239, 240, 241, 242, 243, 244, 245, 246, 247, 248, 249, 250, 251, 252, 253, 254] (by decide +kernel) (by decide +kernel)
set_option maxRecDepth 20000 in
theorem gX11_boards_X10_isBare : GoodIn wsX11_boards (wsV RX11 169 RX10 yX10_isBare wsX10_isBare) := goodIn_app (goodIn_of _ (by decide +kernel)) ggX11_boards_X10_isBare
set_option maxRecDepth 20000 in
theorem ggX11_boards_X10_layAll : GoodIn wsX11_boards wsX10_layAll := goodIn_r _ [222, 223, 224, 225, 7, 226, 22, 34, 35, 36, 37, 38, 39, 239, 240, 241, 242, 243, 244, 245, 246, 247, 248, 249, 250, 251, 252, 253, 254, 233, 234, 235, 236, 237, 238] (by decide +kernel) (by decide +kernel)
set_option maxRecDepth 20000 in
theorem gX11_boards_X10_layAll : GoodIn wsX11_boards (wsV RX11 172 RX10 yX10_layAll wsX10_layAll) := goodIn_app (goodIn_of _ (by decide +kernel)) ggX11_boards_X10_layAll
theorem dX11_boards_0 : decode cX11_boards 0 = .ok (.aload_n 0, 1) := by decide +kernel
theorem dX11_boards_1 : decode cX11_boards 1 = .ok (.getfield 17, 3) := by decide +kernel
theorem dX11_boards_4 : decode cX11_boards 4 = .ok (.iload_n 1, 1) := by decide +kernel
theorem dX11_boards_5 : decode cX11_boards 5 = .ok (.invokevirtual 115, 3) := by decide +kernel
theorem dX11_boards_8 : decode cX11_boards 8 = .ok (.astore 6, 2) := by decide +kernel
theorem dX11_boards_10 : decode cX11_boards 10 = .ok (.aload 6, 2) := by decide +kernel
theorem dX11_boards_12 : decode cX11_boards 12 = .ok (.ifnull 13, 3) := by decide +kernel
theorem dX11_boards_15 : decode cX11_boards 15 = .ok (.iload 5, 2) := by decide +kernel
theorem dX11_boards_17 : decode cX11_boards 17 = .ok (.iconst 0, 1) := by decide +kernel
theorem dX11_boards_18 : decode cX11_boards 18 = .ok (.iconst 1, 1) := by decide +kernel
theorem dX11_boards_19 : decode cX11_boards 19 = .ok (.invokestatic 47, 3) := by decide +kernel
theorem dX11_boards_22 : decode cX11_boards 22 = .ok (.ifCond .eq 7, 3) := by decide +kernel
theorem dX11_boards_25 : decode cX11_boards 25 = .ok (.sipush (-1001), 3) := by decide +kernel
theorem dX11_boards_28 : decode cX11_boards 28 = .ok (.ireturn, 1) := by decide +kernel
theorem dX11_boards_29 : decode cX11_boards 29 = .ok (.iload_n 2, 1) := by decide +kernel
theorem dX11_boards_30 : decode cX11_boards 30 = .ok (.invokestatic 135, 3) := by decide +kernel
theorem dX11_boards_33 : decode cX11_boards 33 = .ok (.ifCond .ne 23, 3) := by decide +kernel
theorem dX11_boards_36 : decode cX11_boards 36 = .ok (.iload_n 3, 1) := by decide +kernel
theorem dX11_boards_37 : decode cX11_boards 37 = .ok (.iconst 1, 1) := by decide +kernel
theorem dX11_boards_38 : decode cX11_boards 38 = .ok (.iconst 3, 1) := by decide +kernel
theorem dX11_boards_39 : decode cX11_boards 39 = .ok (.invokestatic 47, 3) := by decide +kernel
theorem dX11_boards_42 : decode cX11_boards 42 = .ok (.ifCond .ne 14, 3) := by decide +kernel
theorem dX11_boards_45 : decode cX11_boards 45 = .ok (.iload 4, 2) := by decide +kernel
theorem dX11_boards_47 : decode cX11_boards 47 = .ok (.iconst 1, 1) := by decide +kernel
theorem dX11_boards_48 : decode cX11_boards 48 = .ok (.bipush 9, 2) := by decide +kernel
theorem dX11_boards_50 : decode cX11_boards 50 = .ok (.invokestatic 47, 3) := by decide +kernel
theorem dX11_boards_53 : decode cX11_boards 53 = .ok (.ifCond .eq 7, 3) := by decide +kernel
theorem dX11_boards_56 : decode cX11_boards 56 = .ok (.sipush (-1002), 3) := by decide +kernel
theorem dX11_boards_59 : decode cX11_boards 59 = .ok (.ireturn, 1) := by decide +kernel
theorem dX11_boards_60 : decode cX11_boards 60 = .ok (.aload_n 0, 1) := by decide +kernel
theorem dX11_boards_61 : decode cX11_boards 61 = .ok (.getfield 26, 3) := by decide +kernel
theorem dX11_boards_64 : decode cX11_boards 64 = .ok (.aload_n 0, 1) := by decide +kernel
theorem dX11_boards_65 : decode cX11_boards 65 = .ok (.getfield 17, 3) := by decide +kernel
theorem dX11_boards_68 : decode cX11_boards 68 = .ok (.invokevirtual 155, 3) := by decide +kernel
theorem dX11_boards_71 : decode cX11_boards 71 = .ok (.aload_n 0, 1) := by decide +kernel
theorem dX11_boards_72 : decode cX11_boards 72 = .ok (.getfield 26, 3) := by decide +kernel
theorem dX11_boards_75 : decode cX11_boards 75 = .ok (.aload 6, 2) := by decide +kernel
theorem dX11_boards_77 : decode cX11_boards 77 = .ok (.iload_n 2, 1) := by decide +kernel
theorem dX11_boards_78 : decode cX11_boards 78 = .ok (.invokevirtual 139, 3) := by decide +kernel
theorem dX11_boards_81 : decode cX11_boards 81 = .ok (.getfield 147, 3) := by decide +kernel
theorem dX11_boards_84 : decode cX11_boards 84 = .ok (.istore 7, 2) := by decide +kernel
theorem dX11_boards_86 : decode cX11_boards 86 = .ok (.bipush (-5), 2) := by decide +kernel
theorem dX11_boards_88 : decode cX11_boards 88 = .ok (.istore 8, 2) := by decide +kernel
theorem dX11_boards_90 : decode cX11_boards 90 = .ok (.iconst 0, 1) := by decide +kernel
theorem dX11_boards_91 : decode cX11_boards 91 = .ok (.istore 9, 2) := by decide +kernel
theorem dX11_boards_93 : decode cX11_boards 93 = .ok (.iconst 1, 1) := by decide +kernel
theorem dX11_boards_94 : decode cX11_boards 94 = .ok (.istore 10, 2) := by decide +kernel
theorem dX11_boards_96 : decode cX11_boards 96 = .ok (.iload 10, 2) := by decide +kernel
theorem dX11_boards_98 : decode cX11_boards 98 = .ok (.sipush 1024, 3) := by decide +kernel
theorem dX11_boards_101 : decode cX11_boards 101 = .ok (.if_icmp .ge 91, 3) := by decide +kernel
theorem dX11_boards_104 : decode cX11_boards 104 = .ok (.iload 10, 2) := by decide +kernel
theorem dX11_boards_106 : decode cX11_boards 106 = .ok (.invokestatic 163, 3) := by decide +kernel
theorem dX11_boards_109 : decode cX11_boards 109 = .ok (.iload_n 3, 1) := by decide +kernel
theorem dX11_boards_110 : decode cX11_boards 110 = .ok (.if_icmp .ne 76, 3) := by decide +kernel
theorem dX11_boards_113 : decode cX11_boards 113 = .ok (.aload_n 0, 1) := by decide +kernel
theorem dX11_boards_114 : decode cX11_boards 114 = .ok (.getfield 26, 3) := by decide +kernel
theorem dX11_boards_117 : decode cX11_boards 117 = .ok (.iload 10, 2) := by decide +kernel
theorem dX11_boards_119 : decode cX11_boards 119 = .ok (.invokevirtual 169, 3) := by decide +kernel
theorem dX11_boards_122 : decode cX11_boards 122 = .ok (.ifCond .ne 6, 3) := by decide +kernel
theorem dX11_boards_125 : decode cX11_boards 125 = .ok (.goto 61, 3) := by decide +kernel
theorem dX11_boards_128 : decode cX11_boards 128 = .ok (.aload_n 0, 1) := by decide +kernel
theorem dX11_boards_129 : decode cX11_boards 129 = .ok (.getfield 26, 3) := by decide +kernel
theorem dX11_boards_132 : decode cX11_boards 132 = .ok (.iload 10, 2) := by decide +kernel
theorem dX11_boards_134 : decode cX11_boards 134 = .ok (.iload 4, 2) := by decide +kernel
theorem dX11_boards_136 : decode cX11_boards 136 = .ok (.invokevirtual 172, 3) := by decide +kernel
theorem dX11_boards_139 : decode cX11_boards 139 = .ok (.aload_n 0, 1) := by decide +kernel
theorem dX11_boards_140 : decode cX11_boards 140 = .ok (.getfield 26, 3) := by decide +kernel
theorem dX11_boards_143 : decode cX11_boards 143 = .ok (.aload 6, 2) := by decide +kernel
theorem dX11_boards_145 : decode cX11_boards 145 = .ok (.iload_n 2, 1) := by decide +kernel
theorem dX11_boards_146 : decode cX11_boards 146 = .ok (.invokevirtual 139, 3) := by decide +kernel
theorem dX11_boards_149 : decode cX11_boards 149 = .ok (.getfield 147, 3) := by decide +kernel
theorem dX11_boards_152 : decode cX11_boards 152 = .ok (.istore 11, 2) := by decide +kernel
theorem dX11_boards_154 : decode cX11_boards 154 = .ok (.aload_n 0, 1) := by decide +kernel
theorem dX11_boards_155 : decode cX11_boards 155 = .ok (.getfield 26, 3) := by decide +kernel
theorem dX11_boards_158 : decode cX11_boards 158 = .ok (.iload 10, 2) := by decide +kernel
theorem dX11_boards_160 : decode cX11_boards 160 = .ok (.iconst 0, 1) := by decide +kernel
theorem dX11_boards_161 : decode cX11_boards 161 = .ok (.invokevirtual 172, 3) := by decide +kernel
theorem dX11_boards_164 : decode cX11_boards 164 = .ok (.iload 8, 2) := by decide +kernel
theorem dX11_boards_166 : decode cX11_boards 166 = .ok (.bipush (-5), 2) := by decide +kernel
theorem dX11_boards_168 : decode cX11_boards 168 = .ok (.if_icmp .eq 10, 3) := by decide +kernel
theorem dX11_boards_171 : decode cX11_boards 171 = .ok (.iload 11, 2) := by decide +kernel
theorem dX11_boards_173 : decode cX11_boards 173 = .ok (.iload 9, 2) := by decide +kernel
theorem dX11_boards_175 : decode cX11_boards 175 = .ok (.if_icmp .ge 11, 3) := by decide +kernel
theorem dX11_boards_178 : decode cX11_boards 178 = .ok (.iload 10, 2) := by decide +kernel
theorem dX11_boards_180 : decode cX11_boards 180 = .ok (.istore 8, 2) := by decide +kernel
theorem dX11_boards_182 : decode cX11_boards 182 = .ok (.iload 11, 2) := by decide +kernel
theorem dX11_boards_184 : decode cX11_boards 184 = .ok (.istore 9, 2) := by decide +kernel
theorem dX11_boards_186 : decode cX11_boards 186 = .ok (.iinc 10 1, 3) := by decide +kernel
theorem dX11_boards_189 : decode cX11_boards 189 = .ok (.goto (-93), 3) := by decide +kernel
theorem dX11_boards_192 : decode cX11_boards 192 = .ok (.iload 5, 2) := by decide +kernel
theorem dX11_boards_194 : decode cX11_boards 194 = .ok (.ifCond .eq 10, 3) := by decide +kernel
theorem dX11_boards_197 : decode cX11_boards 197 = .ok (.iload 8, 2) := by decide +kernel
theorem dX11_boards_199 : decode cX11_boards 199 = .ok (.bipush (-5), 2) := by decide +kernel
theorem dX11_boards_201 : decode cX11_boards 201 = .ok (.if_icmp .ne 8, 3) := by decide +kernel
theorem dX11_boards_204 : decode cX11_boards 204 = .ok (.iload 8, 2) := by decide +kernel
theorem dX11_boards_206 : decode cX11_boards 206 = .ok (.goto 8, 3) := by decide +kernel
theorem dX11_boards_209 : decode cX11_boards 209 = .ok (.iload 7, 2) := by decide +kernel
theorem dX11_boards_211 : decode cX11_boards 211 = .ok (.iload 9, 2) := by decide +kernel
theorem dX11_boards_213 : decode cX11_boards 213 = .ok (.isub, 1) := by decide +kernel
theorem dX11_boards_214 : decode cX11_boards 214 = .ok (.ireturn, 1) := by decide +kernel
set_option maxRecDepth 20000 in
theorem ggX11_turns_X10_find : GoodIn wsX11_turns wsX10_find := goodIn_r _ [14, 15, 16, 238, 239, 240, 241, 242, 243, 244, 245, 246, 247, 248, 249, 250, 251, 252, 253] (by decide +kernel) (by decide +kernel)
set_option maxRecDepth 20000 in
theorem gX11_turns_X10_find : GoodIn wsX11_turns (wsV RX11 115 RX10 yX10_find wsX10_find) := goodIn_app (goodIn_of _ (by decide +kernel)) ggX11_turns_X10_find
set_option maxRecDepth 20000 in
theorem ggX11_turns_X11_badLoad : GoodIn wsX11_turns wsX11_badLoad := goodIn_r _ [20, 21, 22, 19, 23] (by decide +kernel) (by decide +kernel)
set_option maxRecDepth 20000 in
theorem gX11_turns_X11_badLoad : GoodIn wsX11_turns (va_wsS RX11 135 yX11_badLoad wsX11_badLoad) := goodIn_app (goodIn_of _ (by decide +kernel)) ggX11_turns_X11_badLoad
set_option maxRecDepth 20000 in
theorem ggX11_turns_X11_outside : GoodIn wsX11_turns wsX11_outside := goodIn_r _ [23] (by decide +kernel) (by decide +kernel)
set_option maxRecDepth 20000 in
theorem gX11_turns_X11_outside : GoodIn wsX11_turns (va_wsS RX11 47 yX11_outside wsX11_outside) := goodIn_app (goodIn_of _ (by decide +kernel)) ggX11_turns_X11_outside
set_option maxRecDepth 20000 in
theorem ggX11_turns_X10_take : GoodIn wsX11_turns wsX10_take := goodIn_r _ [27, 28, 29, 30, 31, 32, 16, 33, 15, 34, 35, 36, 37, 38, 39, 40, 41, 42, 13, 43, 44, 45, 238, 239, 240, 241, 242, 243, 244, 245, 246, 247, 248, 249, 250, 251, 252, 253, 232, 233, 234, 235, 236, 237] (by decide +kernel) (by decide +kernel)
set_option maxRecDepth 20000 in
theorem gX11_turns_X10_take : GoodIn wsX11_turns (wsV RX11 155 RX10 yX10_take wsX10_take) := goodIn_app (goodIn_of _ (by decide +kernel)) ggX11_turns_X10_take
set_option maxRecDepth 20000 in
theorem ggX11_turns_X10_plan : GoodIn wsX11_turns wsX10_plan := goodIn_r _ [49, 44, 50, 45, 51, 33, 38, 52, 53, 54, 55, 56, 57, 58, 13, 59, 60, 61, 5, 62, 34, 63, 64, 65, 66, 67, 68, 69, 70, 71, 72, 73, 74, 75, 76, 77, 78, 79, 80, 81, 82, 83, 84, 85, 28, 86, 87, 4, 6, 88, 89, 90, 91, 92, 93, 94, 95, 96, 97, 98, 99, 100, 101, 102, 103, 104, 105, 106, 107, 108, 109, 110, 111, 112, 113, 114, 115, 116, 117, 118, 119, 120, 121, 122, 123, 124, 125, 126, 127, 128, 129, 130, 131, 132, 133, 134, 135, 136, 137, 138, 139, 140, 141, 142, 143, 144, 145, 146, 147, 148, 149, 150, 151, 152, 153, 154, 155, 156, 157, 158, 159, 160, 161, 162, 163, 164, 165, 166, 167, 168, 169, 170, 171, 172, 173, 174, 175, 176, 177, 178, 179, 180, 181, 182, 183, 184, 185, 186, 187, 188, 189, 190, 191, 192, 193, 194, 195, 196, 197, 198, 199, 200, 201, 202, 203, 204, 205, 206, 207, 208, 209, 210, 211, 238, 239, 240, 241, 242, 243, 244, 245, 246, 247, 248, 249, 250, 251, 252, 253, 254, 255, 256, 257, 258, 259, 260, 261, 262, 263, 264, 265, 266, 267, 268, 269, 270, 271, 272, 273, 274, 275, 276, 277, 278, 279, 280, 281, 232, 233, 234, 235, 236, 237, 282, 283, 284, 285, 286, 287, 288, 289] (by decide +kernel) (by decide +kernel)
set_option maxRecDepth 20000 in
theorem gX11_turns_X10_plan : GoodIn wsX11_turns (wsV RX11 139 RX10 yX10_plan wsX10_plan) := goodIn_app (goodIn_of _ (by decide +kernel)) ggX11_turns_X10_plan
set_option maxRecDepth 20000 in
theorem ggX11_turns_X10_finish : GoodIn wsX11_turns wsX10_finish := goodIn_r _ [215, 34, 51, 35, 88, 36, 55, 216, 38, 217, 37, 218, 219, 220, 13, 221, 33, 50, 60, 61, 5, 62, 87, 4, 6, 222, 223, 224, 225, 28, 40, 41, 42, 43, 44, 45, 238, 239, 240, 241, 242, 243, 244, 245, 246, 247, 248, 249, 250, 251, 252, 253, 232, 233, 234, 235, 236, 237, 254, 255, 256, 257, 258, 259, 260, 261, 262, 263, 264, 265, 266, 267, 268, 269, 270, 271, 272, 273, 274, 275, 276, 277, 278, 279, 280, 281, 282, 283, 284, 285, 286, 287, 288, 289] (by decide +kernel) (by decide +kernel)
set_option maxRecDepth 20000 in
theorem gX11_turns_X10_finish : GoodIn wsX11_turns (wsV RX11 143 RX10 yX10_finish wsX10_finish) := goodIn_app (goodIn_of _ (by decide +kernel)) ggX11_turns_X10_finish
theorem dX11_turns_0 : decode cX11_turns 0 = .ok (.aload_n 0, 1) := by decide +kernel
theorem dX11_turns_1 : decode cX11_turns 1 = .ok (.getfield 17, 3) := by decide +kernel
theorem dX11_turns_4 : decode cX11_turns 4 = .ok (.iload_n 1, 1) := by decide +kernel
theorem dX11_turns_5 : decode cX11_turns 5 = .ok (.invokevirtual 115, 3) := by decide +kernel
theorem dX11_turns_8 : decode cX11_turns 8 = .ok (.astore 5, 2) := by decide +kernel
theorem dX11_turns_10 : decode cX11_turns 10 = .ok (.aload_n 0, 1) := by decide +kernel
theorem dX11_turns_11 : decode cX11_turns 11 = .ok (.getfield 17, 3) := by decide +kernel
theorem dX11_turns_14 : decode cX11_turns 14 = .ok (.iload_n 2, 1) := by decide +kernel
theorem dX11_turns_15 : decode cX11_turns 15 = .ok (.invokevirtual 115, 3) := by decide +kernel
theorem dX11_turns_18 : decode cX11_turns 18 = .ok (.astore 6, 2) := by decide +kernel
theorem dX11_turns_20 : decode cX11_turns 20 = .ok (.aload 5, 2) := by decide +kernel
theorem dX11_turns_22 : decode cX11_turns 22 = .ok (.ifnull 8, 3) := by decide +kernel
