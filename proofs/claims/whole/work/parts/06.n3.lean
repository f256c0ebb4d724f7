theorem dX3_init_0 : decode cX3_init 0 = .ok (.aload_n 0, 1) := by decide +kernel
theorem dX3_init_1 : decode cX3_init 1 = .ok (.invokespecial 3, 3) := by decide +kernel
theorem dX3_init_4 : decode cX3_init 4 = .ok (.aload_n 0, 1) := by decide +kernel
theorem dX3_init_5 : decode cX3_init 5 = .ok (.aload_n 1, 1) := by decide +kernel
theorem dX3_init_6 : decode cX3_init 6 = .ok (.putfield 9, 3) := by decide +kernel
theorem dX3_init_9 : decode cX3_init 9 = .ok (.aload_n 0, 1) := by decide +kernel
theorem dX3_init_10 : decode cX3_init 10 = .ok (.new 15, 3) := by decide +kernel
theorem dX3_init_13 : decode cX3_init 13 = .ok (.dup, 1) := by decide +kernel
theorem dX3_init_14 : decode cX3_init 14 = .ok (.aload_n 1, 1) := by decide +kernel
theorem dX3_init_15 : decode cX3_init 15 = .ok (.invokespecial 17, 3) := by decide +kernel
theorem dX3_init_18 : decode cX3_init 18 = .ok (.putfield 20, 3) := by decide +kernel
theorem dX3_init_21 : decode cX3_init 21 = .ok (.aload_n 0, 1) := by decide +kernel
theorem dX3_init_22 : decode cX3_init 22 = .ok (.new 15, 3) := by decide +kernel
theorem dX3_init_25 : decode cX3_init 25 = .ok (.dup, 1) := by decide +kernel
theorem dX3_init_26 : decode cX3_init 26 = .ok (.aload_n 1, 1) := by decide +kernel
theorem dX3_init_27 : decode cX3_init 27 = .ok (.invokespecial 17, 3) := by decide +kernel
theorem dX3_init_30 : decode cX3_init 30 = .ok (.putfield 24, 3) := by decide +kernel
theorem dX3_init_33 : decode cX3_init 33 = .ok (.return_, 1) := by decide +kernel
theorem dX3_outdate_0 : decode cX3_outdate 0 = .ok (.aload_n 0, 1) := by decide +kernel
theorem dX3_outdate_1 : decode cX3_outdate 1 = .ok (.iconst 0, 1) := by decide +kernel
theorem dX3_outdate_2 : decode cX3_outdate 2 = .ok (.putfield 27, 3) := by decide +kernel
theorem dX3_outdate_5 : decode cX3_outdate 5 = .ok (.return_, 1) := by decide +kernel
set_option maxRecDepth 20000 in
theorem ggX3_refresh_X3_fillEffective : GoodIn wsX3_refresh wsX3_fillEffective := goodIn_r _ [8, 2, 9, 10, 11, 12, 13, 14, 15, 16, 17, 18, 19, 20, 21, 22, 23, 24, 25, 26, 27, 28, 29, 30, 31, 32, 33, 34, 35, 36, 37, 38, 39, 40, 41, 42, 43, 44, 45, 46, 47, 48, 49, 50, 51, 52, 53, 54, 55, 56, 57, 58, 59, 60, 61, 62, 63, 64, 65, 66, 67, 68, 117, 118, 119, 120, 121, 122, 123, 124, 125, 126, 127, 128, 129, 130, 131, 132, 133] (by decide +kernel) (by decide +kernel)
set_option maxRecDepth 20000 in
theorem gX3_refresh_X3_fillEffective : GoodIn wsX3_refresh (wsV RX3 37 RX3 yX3_fillEffective wsX3_fillEffective) := goodIn_app (goodIn_of _ (by decide +kernel)) ggX3_refresh_X3_fillEffective
set_option maxRecDepth 20000 in
theorem ggX3_refresh_X3_fillKnown : GoodIn wsX3_refresh wsX3_fillKnown := goodIn_r _ [72, 9, 2, 3, 73, 74, 75, 76, 61, 77, 78, 79, 80, 81, 82, 83, 84, 85, 86, 87, 88, 89, 63, 28, 29, 30, 90, 91, 92, 93, 94, 95, 96, 97, 64, 98, 99, 42, 100, 44, 45, 46, 51, 52, 53, 54, 101, 41, 43, 47, 48, 49, 50, 102, 103, 104, 105, 106, 107, 108, 7, 109, 110, 111, 112, 113, 114, 115, 58, 59, 60, 62, 116, 56, 57, 65, 66, 67, 68, 117, 118, 119, 120, 121, 122, 123, 124, 125, 126, 127, 128, 129, 130, 131, 132, 133] (by decide +kernel) (by decide +kernel)
set_option maxRecDepth 20000 in
theorem gX3_refresh_X3_fillKnown : GoodIn wsX3_refresh (wsV RX3 41 RX3 yX3_fillKnown wsX3_fillKnown) := goodIn_app (goodIn_of _ (by decide +kernel)) ggX3_refresh_X3_fillKnown
theorem dX3_refresh_0 : decode cX3_refresh 0 = .ok (.aload_n 0, 1) := by decide +kernel
theorem dX3_refresh_1 : decode cX3_refresh 1 = .ok (.getfield 27, 3) := by decide +kernel
theorem dX3_refresh_4 : decode cX3_refresh 4 = .ok (.ifCond .eq 4, 3) := by decide +kernel
theorem dX3_refresh_7 : decode cX3_refresh 7 = .ok (.return_, 1) := by decide +kernel
theorem dX3_refresh_8 : decode cX3_refresh 8 = .ok (.iconst 0, 1) := by decide +kernel
theorem dX3_refresh_9 : decode cX3_refresh 9 = .ok (.istore_n 1, 1) := by decide +kernel
theorem dX3_refresh_10 : decode cX3_refresh 10 = .ok (.iload_n 1, 1) := by decide +kernel
theorem dX3_refresh_11 : decode cX3_refresh 11 = .ok (.aload_n 0, 1) := by decide +kernel
theorem dX3_refresh_12 : decode cX3_refresh 12 = .ok (.getfield 9, 3) := by decide +kernel
theorem dX3_refresh_15 : decode cX3_refresh 15 = .ok (.getfield 31, 3) := by decide +kernel
theorem dX3_refresh_18 : decode cX3_refresh 18 = .ok (.if_icmp .ge 14, 3) := by decide +kernel
theorem dX3_refresh_21 : decode cX3_refresh 21 = .ok (.aload_n 0, 1) := by decide +kernel
theorem dX3_refresh_22 : decode cX3_refresh 22 = .ok (.iload_n 1, 1) := by decide +kernel
theorem dX3_refresh_23 : decode cX3_refresh 23 = .ok (.invokevirtual 37, 3) := by decide +kernel
theorem dX3_refresh_26 : decode cX3_refresh 26 = .ok (.iinc 1 1, 3) := by decide +kernel
theorem dX3_refresh_29 : decode cX3_refresh 29 = .ok (.goto (-19), 3) := by decide +kernel
theorem dX3_refresh_32 : decode cX3_refresh 32 = .ok (.iconst 0, 1) := by decide +kernel
theorem dX3_refresh_33 : decode cX3_refresh 33 = .ok (.istore_n 1, 1) := by decide +kernel
theorem dX3_refresh_34 : decode cX3_refresh 34 = .ok (.iload_n 1, 1) := by decide +kernel
theorem dX3_refresh_35 : decode cX3_refresh 35 = .ok (.iconst 4, 1) := by decide +kernel
theorem dX3_refresh_36 : decode cX3_refresh 36 = .ok (.if_icmp .ge 14, 3) := by decide +kernel
theorem dX3_refresh_39 : decode cX3_refresh 39 = .ok (.aload_n 0, 1) := by decide +kernel
theorem dX3_refresh_40 : decode cX3_refresh 40 = .ok (.iload_n 1, 1) := by decide +kernel
theorem dX3_refresh_41 : decode cX3_refresh 41 = .ok (.invokevirtual 41, 3) := by decide +kernel
theorem dX3_refresh_44 : decode cX3_refresh 44 = .ok (.iinc 1 1, 3) := by decide +kernel
theorem dX3_refresh_47 : decode cX3_refresh 47 = .ok (.goto (-13), 3) := by decide +kernel
theorem dX3_refresh_50 : decode cX3_refresh 50 = .ok (.aload_n 0, 1) := by decide +kernel
theorem dX3_refresh_51 : decode cX3_refresh 51 = .ok (.iconst 1, 1) := by decide +kernel
theorem dX3_refresh_52 : decode cX3_refresh 52 = .ok (.putfield 27, 3) := by decide +kernel
theorem dX3_refresh_55 : decode cX3_refresh 55 = .ok (.return_, 1) := by decide +kernel
set_option maxRecDepth 20000 in
theorem ggX3_fillEffective_X0_hasEffective : GoodIn wsX3_fillEffective wsX0_hasEffective := goodIn_r _ [7, 8, 9, 10, 11, 12, 13, 6, 14, 15, 16, 17, 18, 19, 20, 21, 22, 23, 66, 67, 68, 69, 70, 71, 72, 73, 74, 75] (by decide +kernel) (by decide +kernel)
set_option maxRecDepth 20000 in
theorem gX3_fillEffective_X0_hasEffective : GoodIn wsX3_fillEffective (wsV RX3 44 RX0 yX0_hasEffective wsX0_hasEffective) := goodIn_app (goodIn_of _ (by decide +kernel)) ggX3_fillEffective_X0_hasEffective
set_option maxRecDepth 20000 in
theorem ggX3_fillEffective_X0_effective : GoodIn wsX3_fillEffective wsX0_effective := goodIn_r _ [27, 9, 10, 11, 12, 13, 6, 14, 28, 29, 30, 31, 20, 32, 21, 22, 23, 33, 34, 35, 36, 37, 38, 39, 40, 41, 42, 43, 44, 45, 46, 47, 48, 49, 50, 66, 67, 68, 69, 70, 71, 72, 73, 74, 75] (by decide +kernel) (by decide +kernel)
set_option maxRecDepth 20000 in
theorem gX3_fillEffective_X0_effective : GoodIn wsX3_fillEffective (wsV RX3 48 RX0 yX0_effective wsX0_effective) := goodIn_app (goodIn_of _ (by decide +kernel)) ggX3_fillEffective_X0_effective
set_option maxRecDepth 20000 in
theorem ggX3_fillEffective_X2_put : GoodIn wsX3_fillEffective wsX2_put := goodIn_r _ [55, 56, 57, 21, 22, 23, 76, 77, 78] (by decide +kernel) (by decide +kernel)
set_option maxRecDepth 20000 in
theorem gX3_fillEffective_X2_put : GoodIn wsX3_fillEffective (wsV RX3 51 RX2 yX2_put wsX2_put) := goodIn_app (goodIn_of _ (by decide +kernel)) ggX3_fillEffective_X2_put
set_option maxRecDepth 20000 in
theorem ggX3_fillEffective_X2_remove : GoodIn wsX3_fillEffective wsX2_remove := goodIn_r _ [61, 56, 21, 22, 23, 76, 77, 78] (by decide +kernel) (by decide +kernel)
set_option maxRecDepth 20000 in
theorem gX3_fillEffective_X2_remove : GoodIn wsX3_fillEffective (wsV RX3 55 RX2 yX2_remove wsX2_remove) := goodIn_app (goodIn_of _ (by decide +kernel)) ggX3_fillEffective_X2_remove
theorem dX3_fillEffective_0 : decode cX3_fillEffective 0 = .ok (.iconst 0, 1) := by decide +kernel
theorem dX3_fillEffective_1 : decode cX3_fillEffective 1 = .ok (.istore_n 2, 1) := by decide +kernel
theorem dX3_fillEffective_2 : decode cX3_fillEffective 2 = .ok (.iload_n 2, 1) := by decide +kernel
theorem dX3_fillEffective_3 : decode cX3_fillEffective 3 = .ok (.bipush 24, 2) := by decide +kernel
theorem dX3_fillEffective_5 : decode cX3_fillEffective 5 = .ok (.if_icmp .ge 51, 3) := by decide +kernel
theorem dX3_fillEffective_8 : decode cX3_fillEffective 8 = .ok (.aload_n 0, 1) := by decide +kernel
theorem dX3_fillEffective_9 : decode cX3_fillEffective 9 = .ok (.getfield 9, 3) := by decide +kernel
theorem dX3_fillEffective_12 : decode cX3_fillEffective 12 = .ok (.iload_n 1, 1) := by decide +kernel
theorem dX3_fillEffective_13 : decode cX3_fillEffective 13 = .ok (.iload_n 2, 1) := by decide +kernel
theorem dX3_fillEffective_14 : decode cX3_fillEffective 14 = .ok (.invokevirtual 44, 3) := by decide +kernel
theorem dX3_fillEffective_17 : decode cX3_fillEffective 17 = .ok (.ifCond .eq 24, 3) := by decide +kernel
theorem dX3_fillEffective_20 : decode cX3_fillEffective 20 = .ok (.aload_n 0, 1) := by decide +kernel
theorem dX3_fillEffective_21 : decode cX3_fillEffective 21 = .ok (.getfield 20, 3) := by decide +kernel
theorem dX3_fillEffective_24 : decode cX3_fillEffective 24 = .ok (.iload_n 1, 1) := by decide +kernel
theorem dX3_fillEffective_25 : decode cX3_fillEffective 25 = .ok (.iload_n 2, 1) := by decide +kernel
theorem dX3_fillEffective_26 : decode cX3_fillEffective 26 = .ok (.aload_n 0, 1) := by decide +kernel
theorem dX3_fillEffective_27 : decode cX3_fillEffective 27 = .ok (.getfield 9, 3) := by decide +kernel
theorem dX3_fillEffective_30 : decode cX3_fillEffective 30 = .ok (.iload_n 1, 1) := by decide +kernel
theorem dX3_fillEffective_31 : decode cX3_fillEffective 31 = .ok (.iload_n 2, 1) := by decide +kernel
theorem dX3_fillEffective_32 : decode cX3_fillEffective 32 = .ok (.invokevirtual 48, 3) := by decide +kernel
theorem dX3_fillEffective_35 : decode cX3_fillEffective 35 = .ok (.invokevirtual 51, 3) := by decide +kernel
theorem dX3_fillEffective_38 : decode cX3_fillEffective 38 = .ok (.goto 12, 3) := by decide +kernel
theorem dX3_fillEffective_41 : decode cX3_fillEffective 41 = .ok (.aload_n 0, 1) := by decide +kernel
theorem dX3_fillEffective_42 : decode cX3_fillEffective 42 = .ok (.getfield 20, 3) := by decide +kernel
theorem dX3_fillEffective_45 : decode cX3_fillEffective 45 = .ok (.iload_n 1, 1) := by decide +kernel
theorem dX3_fillEffective_46 : decode cX3_fillEffective 46 = .ok (.iload_n 2, 1) := by decide +kernel
theorem dX3_fillEffective_47 : decode cX3_fillEffective 47 = .ok (.invokevirtual 55, 3) := by decide +kernel
theorem dX3_fillEffective_50 : decode cX3_fillEffective 50 = .ok (.iinc 2 1, 3) := by decide +kernel
theorem dX3_fillEffective_53 : decode cX3_fillEffective 53 = .ok (.goto (-51), 3) := by decide +kernel
theorem dX3_fillEffective_56 : decode cX3_fillEffective 56 = .ok (.return_, 1) := by decide +kernel
set_option maxRecDepth 20000 in
theorem ggX3_fillKnown_X2_movement : GoodIn wsX3_fillKnown wsX2_movement := goodIn_r _ [9, 10, 11, 12, 13, 14, 8, 15, 16, 17, 18, 19, 20, 21, 22, 23, 24, 25, 26, 27, 28, 29, 30, 31, 32, 33, 34, 35, 36, 37, 38, 39, 40, 41, 42, 43, 44, 45, 46, 47, 48, 49, 50, 51, 52, 53, 54, 55, 56, 93, 94, 95, 83, 84, 85, 86, 87, 88, 89, 90, 91, 92] (by decide +kernel) (by decide +kernel)
set_option maxRecDepth 20000 in
theorem gX3_fillKnown_X2_movement : GoodIn wsX3_fillKnown (wsV RX3 59 RX2 yX2_movement wsX2_movement) := goodIn_app (goodIn_of _ (by decide +kernel)) ggX3_fillKnown_X2_movement
set_option maxRecDepth 20000 in
theorem ggX3_fillKnown_X3_fillKnownCell : GoodIn wsX3_fillKnown wsX3_fillKnownCell := goodIn_r _ [61, 1, 62, 63, 64, 65, 8, 66, 22, 23, 24, 25, 67, 31, 32, 33, 34, 68, 69, 70, 71, 72, 73, 37, 74, 39, 40, 41, 49, 50, 51, 52, 42, 43, 44, 45, 75, 76, 77, 78, 79, 80, 81, 82, 93, 94, 95] (by decide +kernel) (by decide +kernel)
set_option maxRecDepth 20000 in
theorem gX3_fillKnown_X3_fillKnownCell : GoodIn wsX3_fillKnown (wsV RX3 67 RX3 yX3_fillKnownCell wsX3_fillKnownCell) := goodIn_app (goodIn_of _ (by decide +kernel)) ggX3_fillKnown_X3_fillKnownCell
theorem dX3_fillKnown_0 : decode cX3_fillKnown 0 = .ok (.iconst 0, 1) := by decide +kernel
theorem dX3_fillKnown_1 : decode cX3_fillKnown 1 = .ok (.istore_n 2, 1) := by decide +kernel
theorem dX3_fillKnown_2 : decode cX3_fillKnown 2 = .ok (.iload_n 2, 1) := by decide +kernel
theorem dX3_fillKnown_3 : decode cX3_fillKnown 3 = .ok (.bipush 24, 2) := by decide +kernel
theorem dX3_fillKnown_5 : decode cX3_fillKnown 5 = .ok (.if_icmp .ge 73, 3) := by decide +kernel
theorem dX3_fillKnown_8 : decode cX3_fillKnown 8 = .ok (.iload_n 2, 1) := by decide +kernel
theorem dX3_fillKnown_9 : decode cX3_fillKnown 9 = .ok (.ifCond .ne 7, 3) := by decide +kernel
theorem dX3_fillKnown_12 : decode cX3_fillKnown 12 = .ok (.fconst 1, 1) := by decide +kernel
theorem dX3_fillKnown_13 : decode cX3_fillKnown 13 = .ok (.goto 15, 3) := by decide +kernel
theorem dX3_fillKnown_16 : decode cX3_fillKnown 16 = .ok (.aload_n 0, 1) := by decide +kernel
theorem dX3_fillKnown_17 : decode cX3_fillKnown 17 = .ok (.getfield 20, 3) := by decide +kernel
theorem dX3_fillKnown_20 : decode cX3_fillKnown 20 = .ok (.iload_n 1, 1) := by decide +kernel
theorem dX3_fillKnown_21 : decode cX3_fillKnown 21 = .ok (.iload_n 2, 1) := by decide +kernel
theorem dX3_fillKnown_22 : decode cX3_fillKnown 22 = .ok (.iconst 1, 1) := by decide +kernel
theorem dX3_fillKnown_23 : decode cX3_fillKnown 23 = .ok (.isub, 1) := by decide +kernel
theorem dX3_fillKnown_24 : decode cX3_fillKnown 24 = .ok (.iload_n 2, 1) := by decide +kernel
theorem dX3_fillKnown_25 : decode cX3_fillKnown 25 = .ok (.invokevirtual 59, 3) := by decide +kernel
theorem dX3_fillKnown_28 : decode cX3_fillKnown 28 = .ok (.fstore_n 3, 1) := by decide +kernel
theorem dX3_fillKnown_29 : decode cX3_fillKnown 29 = .ok (.iconst 0, 1) := by decide +kernel
theorem dX3_fillKnown_30 : decode cX3_fillKnown 30 = .ok (.istore 4, 2) := by decide +kernel
theorem dX3_fillKnown_32 : decode cX3_fillKnown 32 = .ok (.iload 4, 2) := by decide +kernel
theorem dX3_fillKnown_34 : decode cX3_fillKnown 34 = .ok (.aload_n 0, 1) := by decide +kernel
theorem dX3_fillKnown_35 : decode cX3_fillKnown 35 = .ok (.getfield 9, 3) := by decide +kernel
theorem dX3_fillKnown_38 : decode cX3_fillKnown 38 = .ok (.getfield 31, 3) := by decide +kernel
theorem dX3_fillKnown_41 : decode cX3_fillKnown 41 = .ok (.if_icmp .ge 31, 3) := by decide +kernel
theorem dX3_fillKnown_44 : decode cX3_fillKnown 44 = .ok (.aload_n 0, 1) := by decide +kernel
theorem dX3_fillKnown_45 : decode cX3_fillKnown 45 = .ok (.getfield 9, 3) := by decide +kernel
theorem dX3_fillKnown_48 : decode cX3_fillKnown 48 = .ok (.getfield 63, 3) := by decide +kernel
theorem dX3_fillKnown_51 : decode cX3_fillKnown 51 = .ok (.iload 4, 2) := by decide +kernel
theorem dX3_fillKnown_53 : decode cX3_fillKnown 53 = .ok (.iaload, 1) := by decide +kernel
theorem dX3_fillKnown_54 : decode cX3_fillKnown 54 = .ok (.iload_n 1, 1) := by decide +kernel
theorem dX3_fillKnown_55 : decode cX3_fillKnown 55 = .ok (.if_icmp .ne 11, 3) := by decide +kernel
theorem dX3_fillKnown_58 : decode cX3_fillKnown 58 = .ok (.aload_n 0, 1) := by decide +kernel
theorem dX3_fillKnown_59 : decode cX3_fillKnown 59 = .ok (.iload 4, 2) := by decide +kernel
theorem dX3_fillKnown_61 : decode cX3_fillKnown 61 = .ok (.iload_n 2, 1) := by decide +kernel
theorem dX3_fillKnown_62 : decode cX3_fillKnown 62 = .ok (.fload_n 3, 1) := by decide +kernel
theorem dX3_fillKnown_63 : decode cX3_fillKnown 63 = .ok (.invokevirtual 67, 3) := by decide +kernel
theorem dX3_fillKnown_66 : decode cX3_fillKnown 66 = .ok (.iinc 4 1, 3) := by decide +kernel
theorem dX3_fillKnown_69 : decode cX3_fillKnown 69 = .ok (.goto (-37), 3) := by decide +kernel
theorem dX3_fillKnown_72 : decode cX3_fillKnown 72 = .ok (.iinc 2 1, 3) := by decide +kernel
theorem dX3_fillKnown_75 : decode cX3_fillKnown 75 = .ok (.goto (-73), 3) := by decide +kernel
theorem dX3_fillKnown_78 : decode cX3_fillKnown 78 = .ok (.return_, 1) := by decide +kernel
set_option maxRecDepth 20000 in
theorem ggX3_fillKnownCell_X2_has : GoodIn wsX3_fillKnownCell wsX2_has := goodIn_r _ [7, 8, 9, 10, 11, 44, 45, 46] (by decide +kernel) (by decide +kernel)
set_option maxRecDepth 20000 in
theorem gX3_fillKnownCell_X2_has : GoodIn wsX3_fillKnownCell (wsV RX3 70 RX2 yX2_has wsX2_has) := goodIn_app (goodIn_of _ (by decide +kernel)) ggX3_fillKnownCell_X2_has
set_option maxRecDepth 20000 in
theorem ggX3_fillKnownCell_X2_get : GoodIn wsX3_fillKnownCell wsX2_get := goodIn_r _ [15, 16, 9, 10, 11, 44, 45, 46] (by decide +kernel) (by decide +kernel)
set_option maxRecDepth 20000 in
theorem gX3_fillKnownCell_X2_get : GoodIn wsX3_fillKnownCell (wsV RX3 73 RX2 yX2_get wsX2_get) := goodIn_app (goodIn_of _ (by decide +kernel)) ggX3_fillKnownCell_X2_get
set_option maxRecDepth 20000 in
theorem ggX3_fillKnownCell_X2_put : GoodIn wsX3_fillKnownCell wsX2_put := goodIn_r _ [20, 8, 16, 9, 10, 11, 44, 45, 46] (by decide +kernel) (by decide +kernel)
set_option maxRecDepth 20000 in
theorem gX3_fillKnownCell_X2_put : GoodIn wsX3_fillKnownCell (wsV RX3 51 RX2 yX2_put wsX2_put) := goodIn_app (goodIn_of _ (by decide +kernel)) ggX3_fillKnownCell_X2_put
set_option maxRecDepth 20000 in
theorem ggX3_fillKnownCell_X5_times : GoodIn wsX3_fillKnownCell wsX5_times := goodIn_r _ [24, 25, 26, 23, 27, 28, 29, 30, 31, 32, 33, 34, 35] (by decide +kernel) (by decide +kernel)
set_option maxRecDepth 20000 in
theorem gX3_fillKnownCell_X5_times : GoodIn wsX3_fillKnownCell (va_wsS RX3 76 yX5_times wsX5_times) := goodIn_app (goodIn_of _ (by decide +kernel)) ggX3_fillKnownCell_X5_times
set_option maxRecDepth 20000 in
theorem ggX3_fillKnownCell_X2_remove : GoodIn wsX3_fillKnownCell wsX2_remove := goodIn_r _ [39, 8, 9, 10, 11, 44, 45, 46] (by decide +kernel) (by decide +kernel)
set_option maxRecDepth 20000 in
theorem gX3_fillKnownCell_X2_remove : GoodIn wsX3_fillKnownCell (wsV RX3 55 RX2 yX2_remove wsX2_remove) := goodIn_app (goodIn_of _ (by decide +kernel)) ggX3_fillKnownCell_X2_remove
theorem dX3_fillKnownCell_0 : decode cX3_fillKnownCell 0 = .ok (.aload_n 0, 1) := by decide +kernel
theorem dX3_fillKnownCell_1 : decode cX3_fillKnownCell 1 = .ok (.getfield 20, 3) := by decide +kernel
theorem dX3_fillKnownCell_4 : decode cX3_fillKnownCell 4 = .ok (.iload_n 1, 1) := by decide +kernel
theorem dX3_fillKnownCell_5 : decode cX3_fillKnownCell 5 = .ok (.iload_n 2, 1) := by decide +kernel
theorem dX3_fillKnownCell_6 : decode cX3_fillKnownCell 6 = .ok (.invokevirtual 70, 3) := by decide +kernel
theorem dX3_fillKnownCell_9 : decode cX3_fillKnownCell 9 = .ok (.ifCond .eq 24, 3) := by decide +kernel
theorem dX3_fillKnownCell_12 : decode cX3_fillKnownCell 12 = .ok (.aload_n 0, 1) := by decide +kernel
theorem dX3_fillKnownCell_13 : decode cX3_fillKnownCell 13 = .ok (.getfield 24, 3) := by decide +kernel
theorem dX3_fillKnownCell_16 : decode cX3_fillKnownCell 16 = .ok (.iload_n 1, 1) := by decide +kernel
theorem dX3_fillKnownCell_17 : decode cX3_fillKnownCell 17 = .ok (.iload_n 2, 1) := by decide +kernel
theorem dX3_fillKnownCell_18 : decode cX3_fillKnownCell 18 = .ok (.aload_n 0, 1) := by decide +kernel
theorem dX3_fillKnownCell_19 : decode cX3_fillKnownCell 19 = .ok (.getfield 20, 3) := by decide +kernel
theorem dX3_fillKnownCell_22 : decode cX3_fillKnownCell 22 = .ok (.iload_n 1, 1) := by decide +kernel
theorem dX3_fillKnownCell_23 : decode cX3_fillKnownCell 23 = .ok (.iload_n 2, 1) := by decide +kernel
theorem dX3_fillKnownCell_24 : decode cX3_fillKnownCell 24 = .ok (.invokevirtual 73, 3) := by decide +kernel
theorem dX3_fillKnownCell_27 : decode cX3_fillKnownCell 27 = .ok (.invokevirtual 51, 3) := by decide +kernel
theorem dX3_fillKnownCell_30 : decode cX3_fillKnownCell 30 = .ok (.goto 57, 3) := by decide +kernel
theorem dX3_fillKnownCell_33 : decode cX3_fillKnownCell 33 = .ok (.iload_n 2, 1) := by decide +kernel
theorem dX3_fillKnownCell_34 : decode cX3_fillKnownCell 34 = .ok (.ifCond .le 44, 3) := by decide +kernel
theorem dX3_fillKnownCell_37 : decode cX3_fillKnownCell 37 = .ok (.aload_n 0, 1) := by decide +kernel
theorem dX3_fillKnownCell_38 : decode cX3_fillKnownCell 38 = .ok (.getfield 24, 3) := by decide +kernel
theorem dX3_fillKnownCell_41 : decode cX3_fillKnownCell 41 = .ok (.iload_n 1, 1) := by decide +kernel
theorem dX3_fillKnownCell_42 : decode cX3_fillKnownCell 42 = .ok (.iload_n 2, 1) := by decide +kernel
theorem dX3_fillKnownCell_43 : decode cX3_fillKnownCell 43 = .ok (.iconst 1, 1) := by decide +kernel
theorem dX3_fillKnownCell_44 : decode cX3_fillKnownCell 44 = .ok (.isub, 1) := by decide +kernel
theorem dX3_fillKnownCell_45 : decode cX3_fillKnownCell 45 = .ok (.invokevirtual 70, 3) := by decide +kernel
theorem dX3_fillKnownCell_48 : decode cX3_fillKnownCell 48 = .ok (.ifCond .eq 30, 3) := by decide +kernel
theorem dX3_fillKnownCell_51 : decode cX3_fillKnownCell 51 = .ok (.aload_n 0, 1) := by decide +kernel
theorem dX3_fillKnownCell_52 : decode cX3_fillKnownCell 52 = .ok (.getfield 24, 3) := by decide +kernel
theorem dX3_fillKnownCell_55 : decode cX3_fillKnownCell 55 = .ok (.iload_n 1, 1) := by decide +kernel
theorem dX3_fillKnownCell_56 : decode cX3_fillKnownCell 56 = .ok (.iload_n 2, 1) := by decide +kernel
theorem dX3_fillKnownCell_57 : decode cX3_fillKnownCell 57 = .ok (.aload_n 0, 1) := by decide +kernel
theorem dX3_fillKnownCell_58 : decode cX3_fillKnownCell 58 = .ok (.getfield 24, 3) := by decide +kernel
theorem dX3_fillKnownCell_61 : decode cX3_fillKnownCell 61 = .ok (.iload_n 1, 1) := by decide +kernel
theorem dX3_fillKnownCell_62 : decode cX3_fillKnownCell 62 = .ok (.iload_n 2, 1) := by decide +kernel
theorem dX3_fillKnownCell_63 : decode cX3_fillKnownCell 63 = .ok (.iconst 1, 1) := by decide +kernel
theorem dX3_fillKnownCell_64 : decode cX3_fillKnownCell 64 = .ok (.isub, 1) := by decide +kernel
theorem dX3_fillKnownCell_65 : decode cX3_fillKnownCell 65 = .ok (.invokevirtual 73, 3) := by decide +kernel
theorem dX3_fillKnownCell_68 : decode cX3_fillKnownCell 68 = .ok (.fload_n 3, 1) := by decide +kernel
theorem dX3_fillKnownCell_69 : decode cX3_fillKnownCell 69 = .ok (.invokestatic 76, 3) := by decide +kernel
theorem dX3_fillKnownCell_72 : decode cX3_fillKnownCell 72 = .ok (.invokevirtual 51, 3) := by decide +kernel
theorem dX3_fillKnownCell_75 : decode cX3_fillKnownCell 75 = .ok (.goto 12, 3) := by decide +kernel
theorem dX3_fillKnownCell_78 : decode cX3_fillKnownCell 78 = .ok (.aload_n 0, 1) := by decide +kernel
theorem dX3_fillKnownCell_79 : decode cX3_fillKnownCell 79 = .ok (.getfield 24, 3) := by decide +kernel
theorem dX3_fillKnownCell_82 : decode cX3_fillKnownCell 82 = .ok (.iload_n 1, 1) := by decide +kernel
theorem dX3_fillKnownCell_83 : decode cX3_fillKnownCell 83 = .ok (.iload_n 2, 1) := by decide +kernel
theorem dX3_fillKnownCell_84 : decode cX3_fillKnownCell 84 = .ok (.invokevirtual 55, 3) := by decide +kernel
theorem dX3_fillKnownCell_87 : decode cX3_fillKnownCell 87 = .ok (.return_, 1) := by decide +kernel
set_option maxRecDepth 20000 in
theorem ggX3_hasImputed_X2_has : GoodIn wsX3_hasImputed wsX2_has := goodIn_r _ [7, 8, 9, 10, 11, 16, 17, 18] (by decide +kernel) (by decide +kernel)
set_option maxRecDepth 20000 in
theorem gX3_hasImputed_X2_has : GoodIn wsX3_hasImputed (wsV RX3 70 RX2 yX2_has wsX2_has) := goodIn_app (goodIn_of _ (by decide +kernel)) ggX3_hasImputed_X2_has
theorem dX3_hasImputed_0 : decode cX3_hasImputed 0 = .ok (.aload_n 0, 1) := by decide +kernel
theorem dX3_hasImputed_1 : decode cX3_hasImputed 1 = .ok (.getfield 24, 3) := by decide +kernel
theorem dX3_hasImputed_4 : decode cX3_hasImputed 4 = .ok (.iload_n 1, 1) := by decide +kernel
theorem dX3_hasImputed_5 : decode cX3_hasImputed 5 = .ok (.iload_n 2, 1) := by decide +kernel
theorem dX3_hasImputed_6 : decode cX3_hasImputed 6 = .ok (.invokevirtual 70, 3) := by decide +kernel
theorem dX3_hasImputed_9 : decode cX3_hasImputed 9 = .ok (.ifCond .eq 19, 3) := by decide +kernel
theorem dX3_hasImputed_12 : decode cX3_hasImputed 12 = .ok (.aload_n 0, 1) := by decide +kernel
theorem dX3_hasImputed_13 : decode cX3_hasImputed 13 = .ok (.getfield 20, 3) := by decide +kernel
theorem dX3_hasImputed_16 : decode cX3_hasImputed 16 = .ok (.iload_n 1, 1) := by decide +kernel
theorem dX3_hasImputed_17 : decode cX3_hasImputed 17 = .ok (.iload_n 2, 1) := by decide +kernel
theorem dX3_hasImputed_18 : decode cX3_hasImputed 18 = .ok (.invokevirtual 70, 3) := by decide +kernel
theorem dX3_hasImputed_21 : decode cX3_hasImputed 21 = .ok (.ifCond .ne 7, 3) := by decide +kernel
theorem dX3_hasImputed_24 : decode cX3_hasImputed 24 = .ok (.iconst 1, 1) := by decide +kernel
theorem dX3_hasImputed_25 : decode cX3_hasImputed 25 = .ok (.goto 4, 3) := by decide +kernel
theorem dX3_hasImputed_28 : decode cX3_hasImputed 28 = .ok (.iconst 0, 1) := by decide +kernel
theorem dX3_hasImputed_29 : decode cX3_hasImputed 29 = .ok (.ireturn, 1) := by decide +kernel
set_option maxRecDepth 20000 in
theorem ggX3_hasDirect_X2_countMatched : GoodIn wsX3_hasDirect wsX2_countMatched := goodIn_r _ [6, 7, 8, 9, 10, 11, 5, 12, 13, 14, 15, 16, 17, 22, 23, 24, 25, 26, 27, 28, 29, 30, 31, 32, 33, 34] (by decide +kernel) (by decide +kernel)
set_option maxRecDepth 20000 in
theorem gX3_hasDirect_X2_countMatched : GoodIn wsX3_hasDirect (wsV RX3 82 RX2 yX2_countMatched wsX2_countMatched) := goodIn_app (goodIn_of _ (by decide +kernel)) ggX3_hasDirect_X2_countMatched
theorem dX3_hasDirect_0 : decode cX3_hasDirect 0 = .ok (.aload_n 0, 1) := by decide +kernel
theorem dX3_hasDirect_1 : decode cX3_hasDirect 1 = .ok (.getfield 24, 3) := by decide +kernel
theorem dX3_hasDirect_4 : decode cX3_hasDirect 4 = .ok (.iload_n 1, 1) := by decide +kernel
theorem dX3_hasDirect_5 : decode cX3_hasDirect 5 = .ok (.iload_n 2, 1) := by decide +kernel
theorem dX3_hasDirect_6 : decode cX3_hasDirect 6 = .ok (.iload_n 3, 1) := by decide +kernel
theorem dX3_hasDirect_7 : decode cX3_hasDirect 7 = .ok (.invokevirtual 82, 3) := by decide +kernel
theorem dX3_hasDirect_10 : decode cX3_hasDirect 10 = .ok (.ifCond .le 7, 3) := by decide +kernel
theorem dX3_hasDirect_13 : decode cX3_hasDirect 13 = .ok (.iconst 1, 1) := by decide +kernel
theorem dX3_hasDirect_14 : decode cX3_hasDirect 14 = .ok (.goto 4, 3) := by decide +kernel
theorem dX3_hasDirect_17 : decode cX3_hasDirect 17 = .ok (.iconst 0, 1) := by decide +kernel
theorem dX3_hasDirect_18 : decode cX3_hasDirect 18 = .ok (.ireturn, 1) := by decide +kernel
set_option maxRecDepth 20000 in
theorem ggX3_direct_X2_movement : GoodIn wsX3_direct wsX2_movement := goodIn_r _ [7, 8, 9, 10, 11, 12, 6, 13, 14, 15, 16, 17, 18, 19, 20, 21, 22, 23, 24, 25, 26, 27, 28, 29, 30, 31, 32, 33, 34, 35, 36, 37, 38, 39, 40, 41, 42, 43, 44, 45, 46, 47, 48, 49, 50, 51, 52, 53, 54, 62, 63, 64, 65, 66, 67, 68, 69, 70, 71, 72, 73, 74] (by decide +kernel) (by decide +kernel)
set_option maxRecDepth 20000 in
theorem gX3_direct_X2_movement : GoodIn wsX3_direct (wsV RX3 59 RX2 yX2_movement wsX2_movement) := goodIn_app (goodIn_of _ (by decide +kernel)) ggX3_direct_X2_movement
set_option maxRecDepth 20000 in
theorem ggX3_direct_X5_times : GoodIn wsX3_direct wsX5_times := goodIn_r _ [57, 37, 38, 35, 39, 47, 48, 49, 50, 40, 41, 42, 43] (by decide +kernel) (by decide +kernel)
set_option maxRecDepth 20000 in
theorem gX3_direct_X5_times : GoodIn wsX3_direct (va_wsS RX3 76 yX5_times wsX5_times) := goodIn_app (goodIn_of _ (by decide +kernel)) ggX3_direct_X5_times
theorem dX3_direct_0 : decode cX3_direct 0 = .ok (.aload_n 0, 1) := by decide +kernel
theorem dX3_direct_1 : decode cX3_direct 1 = .ok (.getfield 24, 3) := by decide +kernel
theorem dX3_direct_4 : decode cX3_direct 4 = .ok (.iload_n 1, 1) := by decide +kernel
theorem dX3_direct_5 : decode cX3_direct 5 = .ok (.iload_n 2, 1) := by decide +kernel
theorem dX3_direct_6 : decode cX3_direct 6 = .ok (.iload_n 3, 1) := by decide +kernel
theorem dX3_direct_7 : decode cX3_direct 7 = .ok (.invokevirtual 59, 3) := by decide +kernel
theorem dX3_direct_10 : decode cX3_direct 10 = .ok (.ldc 86, 2) := by decide +kernel
theorem dX3_direct_12 : decode cX3_direct 12 = .ok (.invokestatic 76, 3) := by decide +kernel
theorem dX3_direct_15 : decode cX3_direct 15 = .ok (.freturn, 1) := by decide +kernel
set_option maxRecDepth 20000 in
theorem ggX3_chained_X2_movement : GoodIn wsX3_chained wsX2_movement := goodIn_r _ [7, 8, 9, 10, 11, 12, 6, 13, 14, 15, 16, 17, 18, 19, 20, 21, 22, 23, 24, 25, 26, 27, 28, 29, 30, 31, 32, 33, 34, 35, 36, 37, 38, 39, 40, 41, 42, 43, 44, 45, 46, 47, 48, 49, 50, 51, 52, 53, 54, 62, 63, 64, 65, 66, 67, 68, 69, 70, 71, 72, 73, 74] (by decide +kernel) (by decide +kernel)
set_option maxRecDepth 20000 in
theorem gX3_chained_X2_movement : GoodIn wsX3_chained (wsV RX3 59 RX2 yX2_movement wsX2_movement) := goodIn_app (goodIn_of _ (by decide +kernel)) ggX3_chained_X2_movement
set_option maxRecDepth 20000 in
theorem ggX3_chained_X5_times : GoodIn wsX3_chained wsX5_times := goodIn_r _ [57, 37, 38, 35, 39, 47, 48, 49, 50, 40, 41, 42, 43] (by decide +kernel) (by decide +kernel)
set_option maxRecDepth 20000 in
theorem gX3_chained_X5_times : GoodIn wsX3_chained (va_wsS RX3 76 yX5_times wsX5_times) := goodIn_app (goodIn_of _ (by decide +kernel)) ggX3_chained_X5_times
theorem dX3_chained_0 : decode cX3_chained 0 = .ok (.ldc 86, 2) := by decide +kernel
theorem dX3_chained_2 : decode cX3_chained 2 = .ok (.fstore 4, 2) := by decide +kernel
theorem dX3_chained_4 : decode cX3_chained 4 = .ok (.iload_n 2, 1) := by decide +kernel
theorem dX3_chained_5 : decode cX3_chained 5 = .ok (.istore 5, 2) := by decide +kernel
theorem dX3_chained_7 : decode cX3_chained 7 = .ok (.iload 5, 2) := by decide +kernel
theorem dX3_chained_9 : decode cX3_chained 9 = .ok (.iload_n 3, 1) := by decide +kernel
theorem dX3_chained_10 : decode cX3_chained 10 = .ok (.if_icmp .ge 30, 3) := by decide +kernel
theorem dX3_chained_13 : decode cX3_chained 13 = .ok (.fload 4, 2) := by decide +kernel
theorem dX3_chained_15 : decode cX3_chained 15 = .ok (.aload_n 0, 1) := by decide +kernel
theorem dX3_chained_16 : decode cX3_chained 16 = .ok (.getfield 20, 3) := by decide +kernel
theorem dX3_chained_19 : decode cX3_chained 19 = .ok (.iload_n 1, 1) := by decide +kernel
theorem dX3_chained_20 : decode cX3_chained 20 = .ok (.iload 5, 2) := by decide +kernel
theorem dX3_chained_22 : decode cX3_chained 22 = .ok (.iload 5, 2) := by decide +kernel
theorem dX3_chained_24 : decode cX3_chained 24 = .ok (.iconst 1, 1) := by decide +kernel
theorem dX3_chained_25 : decode cX3_chained 25 = .ok (.iadd, 1) := by decide +kernel
theorem dX3_chained_26 : decode cX3_chained 26 = .ok (.invokevirtual 59, 3) := by decide +kernel
theorem dX3_chained_29 : decode cX3_chained 29 = .ok (.invokestatic 76, 3) := by decide +kernel
theorem dX3_chained_32 : decode cX3_chained 32 = .ok (.fstore 4, 2) := by decide +kernel
theorem dX3_chained_34 : decode cX3_chained 34 = .ok (.iinc 5 1, 3) := by decide +kernel
theorem dX3_chained_37 : decode cX3_chained 37 = .ok (.goto (-30), 3) := by decide +kernel
theorem dX3_chained_40 : decode cX3_chained 40 = .ok (.fload 4, 2) := by decide +kernel
theorem dX3_chained_42 : decode cX3_chained 42 = .ok (.freturn, 1) := by decide +kernel
set_option maxRecDepth 20000 in
theorem ggX3_weightOfDirect_X3_hasDirect : GoodIn wsX3_weightOfDirect wsX3_hasDirect := goodIn_r _ [7, 8, 9, 10, 11, 12, 13, 14, 15, 16, 17, 18, 19, 20, 21, 22, 23, 24, 25, 26, 27, 28, 39, 40, 41, 29, 30, 31, 32, 33, 34, 35, 36, 37, 38] (by decide +kernel) (by decide +kernel)
set_option maxRecDepth 20000 in
theorem gX3_weightOfDirect_X3_hasDirect : GoodIn wsX3_weightOfDirect (wsV RX3 87 RX3 yX3_hasDirect wsX3_hasDirect) := goodIn_app (goodIn_of _ (by decide +kernel)) ggX3_weightOfDirect_X3_hasDirect
theorem dX3_weightOfDirect_0 : decode cX3_weightOfDirect 0 = .ok (.iconst 0, 1) := by decide +kernel
theorem dX3_weightOfDirect_1 : decode cX3_weightOfDirect 1 = .ok (.istore_n 3, 1) := by decide +kernel
theorem dX3_weightOfDirect_2 : decode cX3_weightOfDirect 2 = .ok (.iconst 0, 1) := by decide +kernel
theorem dX3_weightOfDirect_3 : decode cX3_weightOfDirect 3 = .ok (.istore 4, 2) := by decide +kernel
theorem dX3_weightOfDirect_5 : decode cX3_weightOfDirect 5 = .ok (.iload 4, 2) := by decide +kernel
theorem dX3_weightOfDirect_7 : decode cX3_weightOfDirect 7 = .ok (.iconst 4, 1) := by decide +kernel
theorem dX3_weightOfDirect_8 : decode cX3_weightOfDirect 8 = .ok (.if_icmp .ge 33, 3) := by decide +kernel
theorem dX3_weightOfDirect_11 : decode cX3_weightOfDirect 11 = .ok (.aload_n 0, 1) := by decide +kernel
theorem dX3_weightOfDirect_12 : decode cX3_weightOfDirect 12 = .ok (.iload 4, 2) := by decide +kernel
theorem dX3_weightOfDirect_14 : decode cX3_weightOfDirect 14 = .ok (.iload_n 1, 1) := by decide +kernel
theorem dX3_weightOfDirect_15 : decode cX3_weightOfDirect 15 = .ok (.iload_n 2, 1) := by decide +kernel
theorem dX3_weightOfDirect_16 : decode cX3_weightOfDirect 16 = .ok (.invokevirtual 87, 3) := by decide +kernel
theorem dX3_weightOfDirect_19 : decode cX3_weightOfDirect 19 = .ok (.ifCond .eq 16, 3) := by decide +kernel
theorem dX3_weightOfDirect_22 : decode cX3_weightOfDirect 22 = .ok (.iload_n 3, 1) := by decide +kernel
theorem dX3_weightOfDirect_23 : decode cX3_weightOfDirect 23 = .ok (.aload_n 0, 1) := by decide +kernel
theorem dX3_weightOfDirect_24 : decode cX3_weightOfDirect 24 = .ok (.getfield 9, 3) := by decide +kernel
theorem dX3_weightOfDirect_27 : decode cX3_weightOfDirect 27 = .ok (.getfield 91, 3) := by decide +kernel
theorem dX3_weightOfDirect_30 : decode cX3_weightOfDirect 30 = .ok (.iload 4, 2) := by decide +kernel
theorem dX3_weightOfDirect_32 : decode cX3_weightOfDirect 32 = .ok (.iaload, 1) := by decide +kernel
theorem dX3_weightOfDirect_33 : decode cX3_weightOfDirect 33 = .ok (.iadd, 1) := by decide +kernel
theorem dX3_weightOfDirect_34 : decode cX3_weightOfDirect 34 = .ok (.istore_n 3, 1) := by decide +kernel
theorem dX3_weightOfDirect_35 : decode cX3_weightOfDirect 35 = .ok (.iinc 4 1, 3) := by decide +kernel
theorem dX3_weightOfDirect_38 : decode cX3_weightOfDirect 38 = .ok (.goto (-33), 3) := by decide +kernel
theorem dX3_weightOfDirect_41 : decode cX3_weightOfDirect 41 = .ok (.iload_n 3, 1) := by decide +kernel
theorem dX3_weightOfDirect_42 : decode cX3_weightOfDirect 42 = .ok (.ireturn, 1) := by decide +kernel
set_option maxRecDepth 20000 in
theorem ggX3_aggregate_X3_hasDirect : GoodIn wsX3_aggregate wsX3_hasDirect := goodIn_r _ [7, 8, 9, 10, 11, 12, 13, 14, 15, 16, 17, 18, 19, 20, 21, 22, 23, 24, 76, 77, 78, 79, 90, 91, 92, 80, 81, 82, 83, 84, 85, 86, 87, 88, 89] (by decide +kernel) (by decide +kernel)
set_option maxRecDepth 20000 in
theorem gX3_aggregate_X3_hasDirect : GoodIn wsX3_aggregate (wsV RX3 87 RX3 yX3_hasDirect wsX3_hasDirect) := goodIn_app (goodIn_of _ (by decide +kernel)) ggX3_aggregate_X3_hasDirect
set_option maxRecDepth 20000 in
theorem ggX3_aggregate_X3_direct : GoodIn wsX3_aggregate wsX3_direct := goodIn_r _ [28, 8, 29, 30, 31, 32, 12, 33, 14, 34, 35, 10, 11, 13, 15, 16, 17, 18, 19, 20, 21, 22, 23, 24, 36, 37, 38, 39, 40, 41, 42, 43, 44, 45, 46, 47, 48, 49, 50, 51, 52, 53, 54, 55, 56, 57, 58, 59, 60, 61, 62, 63, 64, 65, 66, 67, 68, 69, 76, 77, 78, 79, 90, 91, 92, 80, 81, 82, 83, 84, 85, 86, 87, 88, 89] (by decide +kernel) (by decide +kernel)
set_option maxRecDepth 20000 in
theorem gX3_aggregate_X3_direct : GoodIn wsX3_aggregate (wsV RX3 94 RX3 yX3_direct wsX3_direct) := goodIn_app (goodIn_of _ (by decide +kernel)) ggX3_aggregate_X3_direct
set_option maxRecDepth 20000 in
theorem ggX3_aggregate_X5_times : GoodIn wsX3_aggregate wsX5_times := goodIn_r _ [69, 49, 50, 47, 51, 59, 60, 61, 62, 52, 53, 54, 55] (by decide +kernel) (by decide +kernel)
set_option maxRecDepth 20000 in
theorem gX3_aggregate_X5_times : GoodIn wsX3_aggregate (va_wsS RX3 76 yX5_times wsX5_times) := goodIn_app (goodIn_of _ (by decide +kernel)) ggX3_aggregate_X5_times
set_option maxRecDepth 20000 in
theorem ggX3_aggregate_X5_plus : GoodIn wsX3_aggregate wsX5_plus := goodIn_r _ [48, 49, 50, 47, 51, 52, 53, 54, 55] (by decide +kernel) (by decide +kernel)
set_option maxRecDepth 20000 in
theorem gX3_aggregate_X5_plus : GoodIn wsX3_aggregate (va_wsS RX3 97 yX5_plus wsX5_plus) := goodIn_app (goodIn_of _ (by decide +kernel)) ggX3_aggregate_X5_plus
set_option maxRecDepth 20000 in
theorem ggX3_aggregate_X3_weightOfDirect : GoodIn wsX3_aggregate wsX3_weightOfDirect := goodIn_r _ [74, 1, 2, 3, 4, 5, 6, 7, 8, 9, 10, 11, 12, 13, 14, 15, 16, 17, 18, 19, 20, 21, 22, 23, 24, 76, 77, 78, 79, 80, 81, 82, 83, 84, 85, 86, 87, 88, 89, 90, 91, 92] (by decide +kernel) (by decide +kernel)
set_option maxRecDepth 20000 in
theorem gX3_aggregate_X3_weightOfDirect : GoodIn wsX3_aggregate (wsV RX3 100 RX3 yX3_weightOfDirect wsX3_weightOfDirect) := goodIn_app (goodIn_of _ (by decide +kernel)) ggX3_aggregate_X3_weightOfDirect
set_option maxRecDepth 20000 in
theorem ggX3_aggregate_X5_over : GoodIn wsX3_aggregate wsX5_over := goodIn_r _ [58, 49, 50, 47, 51, 59, 60, 61, 62, 52, 53, 54, 55] (by decide +kernel) (by decide +kernel)
set_option maxRecDepth 20000 in
theorem gX3_aggregate_X5_over : GoodIn wsX3_aggregate (va_wsS RX3 104 yX5_over wsX5_over) := goodIn_app (goodIn_of _ (by decide +kernel)) ggX3_aggregate_X5_over
theorem dX3_aggregate_0 : decode cX3_aggregate 0 = .ok (.fconst 0, 1) := by decide +kernel
theorem dX3_aggregate_1 : decode cX3_aggregate 1 = .ok (.fstore_n 3, 1) := by decide +kernel
theorem dX3_aggregate_2 : decode cX3_aggregate 2 = .ok (.iconst 0, 1) := by decide +kernel
theorem dX3_aggregate_3 : decode cX3_aggregate 3 = .ok (.istore 4, 2) := by decide +kernel
theorem dX3_aggregate_5 : decode cX3_aggregate 5 = .ok (.iload 4, 2) := by decide +kernel
theorem dX3_aggregate_7 : decode cX3_aggregate 7 = .ok (.iconst 4, 1) := by decide +kernel
theorem dX3_aggregate_8 : decode cX3_aggregate 8 = .ok (.if_icmp .ge 51, 3) := by decide +kernel
theorem dX3_aggregate_11 : decode cX3_aggregate 11 = .ok (.aload_n 0, 1) := by decide +kernel
theorem dX3_aggregate_12 : decode cX3_aggregate 12 = .ok (.iload 4, 2) := by decide +kernel
theorem dX3_aggregate_14 : decode cX3_aggregate 14 = .ok (.iload_n 1, 1) := by decide +kernel
theorem dX3_aggregate_15 : decode cX3_aggregate 15 = .ok (.iload_n 2, 1) := by decide +kernel
theorem dX3_aggregate_16 : decode cX3_aggregate 16 = .ok (.invokevirtual 87, 3) := by decide +kernel
theorem dX3_aggregate_19 : decode cX3_aggregate 19 = .ok (.ifCond .eq 34, 3) := by decide +kernel
theorem dX3_aggregate_22 : decode cX3_aggregate 22 = .ok (.aload_n 0, 1) := by decide +kernel
theorem dX3_aggregate_23 : decode cX3_aggregate 23 = .ok (.getfield 9, 3) := by decide +kernel
theorem dX3_aggregate_26 : decode cX3_aggregate 26 = .ok (.getfield 91, 3) := by decide +kernel
theorem dX3_aggregate_29 : decode cX3_aggregate 29 = .ok (.iload 4, 2) := by decide +kernel
theorem dX3_aggregate_31 : decode cX3_aggregate 31 = .ok (.iaload, 1) := by decide +kernel
theorem dX3_aggregate_32 : decode cX3_aggregate 32 = .ok (.i2f, 1) := by decide +kernel
theorem dX3_aggregate_33 : decode cX3_aggregate 33 = .ok (.fstore 5, 2) := by decide +kernel
theorem dX3_aggregate_35 : decode cX3_aggregate 35 = .ok (.fload_n 3, 1) := by decide +kernel
theorem dX3_aggregate_36 : decode cX3_aggregate 36 = .ok (.fload 5, 2) := by decide +kernel
theorem dX3_aggregate_38 : decode cX3_aggregate 38 = .ok (.aload_n 0, 1) := by decide +kernel
theorem dX3_aggregate_39 : decode cX3_aggregate 39 = .ok (.iload 4, 2) := by decide +kernel
theorem dX3_aggregate_41 : decode cX3_aggregate 41 = .ok (.iload_n 1, 1) := by decide +kernel
theorem dX3_aggregate_42 : decode cX3_aggregate 42 = .ok (.iload_n 2, 1) := by decide +kernel
theorem dX3_aggregate_43 : decode cX3_aggregate 43 = .ok (.invokevirtual 94, 3) := by decide +kernel
theorem dX3_aggregate_46 : decode cX3_aggregate 46 = .ok (.invokestatic 76, 3) := by decide +kernel
theorem dX3_aggregate_49 : decode cX3_aggregate 49 = .ok (.invokestatic 97, 3) := by decide +kernel
theorem dX3_aggregate_52 : decode cX3_aggregate 52 = .ok (.fstore_n 3, 1) := by decide +kernel
theorem dX3_aggregate_53 : decode cX3_aggregate 53 = .ok (.iinc 4 1, 3) := by decide +kernel
theorem dX3_aggregate_56 : decode cX3_aggregate 56 = .ok (.goto (-51), 3) := by decide +kernel
theorem dX3_aggregate_59 : decode cX3_aggregate 59 = .ok (.fload_n 3, 1) := by decide +kernel
theorem dX3_aggregate_60 : decode cX3_aggregate 60 = .ok (.aload_n 0, 1) := by decide +kernel
theorem dX3_aggregate_61 : decode cX3_aggregate 61 = .ok (.iload_n 1, 1) := by decide +kernel
theorem dX3_aggregate_62 : decode cX3_aggregate 62 = .ok (.iload_n 2, 1) := by decide +kernel
theorem dX3_aggregate_63 : decode cX3_aggregate 63 = .ok (.invokevirtual 100, 3) := by decide +kernel
theorem dX3_aggregate_66 : decode cX3_aggregate 66 = .ok (.i2f, 1) := by decide +kernel
theorem dX3_aggregate_67 : decode cX3_aggregate 67 = .ok (.invokestatic 104, 3) := by decide +kernel
theorem dX3_aggregate_70 : decode cX3_aggregate 70 = .ok (.freturn, 1) := by decide +kernel
