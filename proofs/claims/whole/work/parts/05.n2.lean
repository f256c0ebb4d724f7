theorem dX2_init_0 : decode cX2_init 0 = .ok (.aload_n 0, 1) := by decide +kernel
theorem dX2_init_1 : decode cX2_init 1 = .ok (.invokespecial 3, 3) := by decide +kernel
theorem dX2_init_4 : decode cX2_init 4 = .ok (.aload_n 0, 1) := by decide +kernel
theorem dX2_init_5 : decode cX2_init 5 = .ok (.sipush 288, 3) := by decide +kernel
theorem dX2_init_8 : decode cX2_init 8 = .ok (.newarray .boolean, 2) := by decide +kernel
theorem dX2_init_10 : decode cX2_init 10 = .ok (.putfield 9, 3) := by decide +kernel
theorem dX2_init_13 : decode cX2_init 13 = .ok (.aload_n 0, 1) := by decide +kernel
theorem dX2_init_14 : decode cX2_init 14 = .ok (.sipush 288, 3) := by decide +kernel
theorem dX2_init_17 : decode cX2_init 17 = .ok (.newarray .float, 2) := by decide +kernel
theorem dX2_init_19 : decode cX2_init 19 = .ok (.putfield 15, 3) := by decide +kernel
theorem dX2_init_22 : decode cX2_init 22 = .ok (.aload_n 0, 1) := by decide +kernel
theorem dX2_init_23 : decode cX2_init 23 = .ok (.aload_n 1, 1) := by decide +kernel
theorem dX2_init_24 : decode cX2_init 24 = .ok (.putfield 19, 3) := by decide +kernel
theorem dX2_init_27 : decode cX2_init 27 = .ok (.return_, 1) := by decide +kernel
set_option maxRecDepth 20000 in
theorem ggX2_has_X6_cell : GoodIn wsX2_has wsX6_cell := goodIn_r _ [4] (by decide +kernel) (by decide +kernel)
set_option maxRecDepth 20000 in
theorem gX2_has_X6_cell_n23 : GoodIn wsX2_has (wsX6_cell) := ggX2_has_X6_cell
theorem dX2_has_0 : decode cX2_has 0 = .ok (.aload_n 0, 1) := by decide +kernel
theorem dX2_has_1 : decode cX2_has 1 = .ok (.getfield 9, 3) := by decide +kernel
theorem dX2_has_4 : decode cX2_has 4 = .ok (.iload_n 1, 1) := by decide +kernel
theorem dX2_has_5 : decode cX2_has 5 = .ok (.iload_n 2, 1) := by decide +kernel
theorem dX2_has_6 : decode cX2_has 6 = .ok (.invokestatic 23, 3) := by decide +kernel
theorem dX2_has_9 : decode cX2_has 9 = .ok (.baload, 1) := by decide +kernel
theorem dX2_has_10 : decode cX2_has 10 = .ok (.ireturn, 1) := by decide +kernel
set_option maxRecDepth 20000 in
theorem ggX2_get_X6_cell : GoodIn wsX2_get wsX6_cell := goodIn_r _ [4] (by decide +kernel) (by decide +kernel)
set_option maxRecDepth 20000 in
theorem gX2_get_X6_cell_n23 : GoodIn wsX2_get (wsX6_cell) := ggX2_get_X6_cell
theorem dX2_get_0 : decode cX2_get 0 = .ok (.aload_n 0, 1) := by decide +kernel
theorem dX2_get_1 : decode cX2_get 1 = .ok (.getfield 15, 3) := by decide +kernel
theorem dX2_get_4 : decode cX2_get 4 = .ok (.iload_n 1, 1) := by decide +kernel
theorem dX2_get_5 : decode cX2_get 5 = .ok (.iload_n 2, 1) := by decide +kernel
theorem dX2_get_6 : decode cX2_get 6 = .ok (.invokestatic 23, 3) := by decide +kernel
theorem dX2_get_9 : decode cX2_get 9 = .ok (.faload, 1) := by decide +kernel
theorem dX2_get_10 : decode cX2_get 10 = .ok (.freturn, 1) := by decide +kernel
set_option maxRecDepth 20000 in
theorem ggX2_put_X6_cell : GoodIn wsX2_put wsX6_cell := goodIn_r _ [5] (by decide +kernel) (by decide +kernel)
set_option maxRecDepth 20000 in
theorem gX2_put_X6_cell_n23 : GoodIn wsX2_put (wsX6_cell) := ggX2_put_X6_cell
theorem dX2_put_0 : decode cX2_put 0 = .ok (.aload_n 0, 1) := by decide +kernel
theorem dX2_put_1 : decode cX2_put 1 = .ok (.getfield 9, 3) := by decide +kernel
theorem dX2_put_4 : decode cX2_put 4 = .ok (.iload_n 1, 1) := by decide +kernel
theorem dX2_put_5 : decode cX2_put 5 = .ok (.iload_n 2, 1) := by decide +kernel
theorem dX2_put_6 : decode cX2_put 6 = .ok (.invokestatic 23, 3) := by decide +kernel
theorem dX2_put_9 : decode cX2_put 9 = .ok (.iconst 1, 1) := by decide +kernel
theorem dX2_put_10 : decode cX2_put 10 = .ok (.bastore, 1) := by decide +kernel
theorem dX2_put_11 : decode cX2_put 11 = .ok (.aload_n 0, 1) := by decide +kernel
theorem dX2_put_12 : decode cX2_put 12 = .ok (.getfield 15, 3) := by decide +kernel
theorem dX2_put_15 : decode cX2_put 15 = .ok (.iload_n 1, 1) := by decide +kernel
theorem dX2_put_16 : decode cX2_put 16 = .ok (.iload_n 2, 1) := by decide +kernel
theorem dX2_put_17 : decode cX2_put 17 = .ok (.invokestatic 23, 3) := by decide +kernel
theorem dX2_put_20 : decode cX2_put 20 = .ok (.fload_n 3, 1) := by decide +kernel
theorem dX2_put_21 : decode cX2_put 21 = .ok (.fastore, 1) := by decide +kernel
theorem dX2_put_22 : decode cX2_put 22 = .ok (.return_, 1) := by decide +kernel
set_option maxRecDepth 20000 in
theorem ggX2_remove_X6_cell : GoodIn wsX2_remove wsX6_cell := goodIn_r _ [4] (by decide +kernel) (by decide +kernel)
set_option maxRecDepth 20000 in
theorem gX2_remove_X6_cell_n23 : GoodIn wsX2_remove (wsX6_cell) := ggX2_remove_X6_cell
theorem dX2_remove_0 : decode cX2_remove 0 = .ok (.aload_n 0, 1) := by decide +kernel
theorem dX2_remove_1 : decode cX2_remove 1 = .ok (.getfield 9, 3) := by decide +kernel
theorem dX2_remove_4 : decode cX2_remove 4 = .ok (.iload_n 1, 1) := by decide +kernel
theorem dX2_remove_5 : decode cX2_remove 5 = .ok (.iload_n 2, 1) := by decide +kernel
theorem dX2_remove_6 : decode cX2_remove 6 = .ok (.invokestatic 23, 3) := by decide +kernel
theorem dX2_remove_9 : decode cX2_remove 9 = .ok (.iconst 0, 1) := by decide +kernel
theorem dX2_remove_10 : decode cX2_remove 10 = .ok (.bastore, 1) := by decide +kernel
theorem dX2_remove_11 : decode cX2_remove 11 = .ok (.return_, 1) := by decide +kernel
set_option maxRecDepth 20000 in
theorem ggX2_isMatched_X6_cell : GoodIn wsX2_isMatched wsX6_cell := goodIn_r _ [6] (by decide +kernel) (by decide +kernel)
set_option maxRecDepth 20000 in
theorem gX2_isMatched_X6_cell_n23 : GoodIn wsX2_isMatched (wsX6_cell) := ggX2_isMatched_X6_cell
theorem dX2_isMatched_0 : decode cX2_isMatched 0 = .ok (.aload_n 0, 1) := by decide +kernel
theorem dX2_isMatched_1 : decode cX2_isMatched 1 = .ok (.getfield 19, 3) := by decide +kernel
theorem dX2_isMatched_4 : decode cX2_isMatched 4 = .ok (.getfield 27, 3) := by decide +kernel
theorem dX2_isMatched_7 : decode cX2_isMatched 7 = .ok (.iload_n 1, 1) := by decide +kernel
theorem dX2_isMatched_8 : decode cX2_isMatched 8 = .ok (.iaload, 1) := by decide +kernel
theorem dX2_isMatched_9 : decode cX2_isMatched 9 = .ok (.iload_n 2, 1) := by decide +kernel
theorem dX2_isMatched_10 : decode cX2_isMatched 10 = .ok (.if_icmp .ne 34, 3) := by decide +kernel
theorem dX2_isMatched_13 : decode cX2_isMatched 13 = .ok (.aload_n 0, 1) := by decide +kernel
theorem dX2_isMatched_14 : decode cX2_isMatched 14 = .ok (.getfield 9, 3) := by decide +kernel
theorem dX2_isMatched_17 : decode cX2_isMatched 17 = .ok (.iload_n 1, 1) := by decide +kernel
theorem dX2_isMatched_18 : decode cX2_isMatched 18 = .ok (.iload_n 3, 1) := by decide +kernel
theorem dX2_isMatched_19 : decode cX2_isMatched 19 = .ok (.invokestatic 23, 3) := by decide +kernel
theorem dX2_isMatched_22 : decode cX2_isMatched 22 = .ok (.baload, 1) := by decide +kernel
theorem dX2_isMatched_23 : decode cX2_isMatched 23 = .ok (.ifCond .eq 21, 3) := by decide +kernel
theorem dX2_isMatched_26 : decode cX2_isMatched 26 = .ok (.aload_n 0, 1) := by decide +kernel
theorem dX2_isMatched_27 : decode cX2_isMatched 27 = .ok (.getfield 9, 3) := by decide +kernel
theorem dX2_isMatched_30 : decode cX2_isMatched 30 = .ok (.iload_n 1, 1) := by decide +kernel
theorem dX2_isMatched_31 : decode cX2_isMatched 31 = .ok (.iload 4, 2) := by decide +kernel
theorem dX2_isMatched_33 : decode cX2_isMatched 33 = .ok (.invokestatic 23, 3) := by decide +kernel
theorem dX2_isMatched_36 : decode cX2_isMatched 36 = .ok (.baload, 1) := by decide +kernel
theorem dX2_isMatched_37 : decode cX2_isMatched 37 = .ok (.ifCond .eq 7, 3) := by decide +kernel
theorem dX2_isMatched_40 : decode cX2_isMatched 40 = .ok (.iconst 1, 1) := by decide +kernel
theorem dX2_isMatched_41 : decode cX2_isMatched 41 = .ok (.goto 4, 3) := by decide +kernel
theorem dX2_isMatched_44 : decode cX2_isMatched 44 = .ok (.iconst 0, 1) := by decide +kernel
theorem dX2_isMatched_45 : decode cX2_isMatched 45 = .ok (.ireturn, 1) := by decide +kernel
set_option maxRecDepth 20000 in
theorem ggX2_countMatched_X2_isMatched : GoodIn wsX2_countMatched wsX2_isMatched := goodIn_r _ [7, 1, 8, 9, 10, 11, 12, 13, 14, 15, 16, 17, 18, 19, 20, 21, 22, 23, 24, 25] (by decide +kernel) (by decide +kernel)
set_option maxRecDepth 20000 in
theorem gX2_countMatched_X2_isMatched : GoodIn wsX2_countMatched (wsV RX2 37 RX2 yX2_isMatched wsX2_isMatched) := goodIn_app (goodIn_of _ (by decide +kernel)) ggX2_countMatched_X2_isMatched
theorem dX2_countMatched_0 : decode cX2_countMatched 0 = .ok (.iconst 0, 1) := by decide +kernel
theorem dX2_countMatched_1 : decode cX2_countMatched 1 = .ok (.istore 4, 2) := by decide +kernel
theorem dX2_countMatched_3 : decode cX2_countMatched 3 = .ok (.iconst 0, 1) := by decide +kernel
theorem dX2_countMatched_4 : decode cX2_countMatched 4 = .ok (.istore 5, 2) := by decide +kernel
theorem dX2_countMatched_6 : decode cX2_countMatched 6 = .ok (.iload 5, 2) := by decide +kernel
theorem dX2_countMatched_8 : decode cX2_countMatched 8 = .ok (.aload_n 0, 1) := by decide +kernel
theorem dX2_countMatched_9 : decode cX2_countMatched 9 = .ok (.getfield 19, 3) := by decide +kernel
theorem dX2_countMatched_12 : decode cX2_countMatched 12 = .ok (.getfield 33, 3) := by decide +kernel
theorem dX2_countMatched_15 : decode cX2_countMatched 15 = .ok (.if_icmp .ge 24, 3) := by decide +kernel
theorem dX2_countMatched_18 : decode cX2_countMatched 18 = .ok (.aload_n 0, 1) := by decide +kernel
theorem dX2_countMatched_19 : decode cX2_countMatched 19 = .ok (.iload 5, 2) := by decide +kernel
theorem dX2_countMatched_21 : decode cX2_countMatched 21 = .ok (.iload_n 1, 1) := by decide +kernel
theorem dX2_countMatched_22 : decode cX2_countMatched 22 = .ok (.iload_n 2, 1) := by decide +kernel
theorem dX2_countMatched_23 : decode cX2_countMatched 23 = .ok (.iload_n 3, 1) := by decide +kernel
theorem dX2_countMatched_24 : decode cX2_countMatched 24 = .ok (.invokevirtual 37, 3) := by decide +kernel
theorem dX2_countMatched_27 : decode cX2_countMatched 27 = .ok (.ifCond .eq 6, 3) := by decide +kernel
theorem dX2_countMatched_30 : decode cX2_countMatched 30 = .ok (.iinc 4 1, 3) := by decide +kernel
theorem dX2_countMatched_33 : decode cX2_countMatched 33 = .ok (.iinc 5 1, 3) := by decide +kernel
theorem dX2_countMatched_36 : decode cX2_countMatched 36 = .ok (.goto (-30), 3) := by decide +kernel
theorem dX2_countMatched_39 : decode cX2_countMatched 39 = .ok (.iload 4, 2) := by decide +kernel
theorem dX2_countMatched_41 : decode cX2_countMatched 41 = .ok (.ireturn, 1) := by decide +kernel
set_option maxRecDepth 20000 in
theorem ggX2_movement_X2_countMatched : GoodIn wsX2_movement wsX2_countMatched := goodIn_r _ [7, 1, 8, 9, 10, 11, 6, 12, 13, 14, 15, 16, 17, 49, 50, 51, 52, 53, 54, 55, 56, 57, 58, 59, 60, 61] (by decide +kernel) (by decide +kernel)
set_option maxRecDepth 20000 in
theorem gX2_movement_X2_countMatched : GoodIn wsX2_movement (wsV RX2 41 RX2 yX2_countMatched wsX2_countMatched) := goodIn_app (goodIn_of _ (by decide +kernel)) ggX2_movement_X2_countMatched
set_option maxRecDepth 20000 in
theorem ggX2_movement_X2_sumOfPrices : GoodIn wsX2_movement wsX2_sumOfPrices := goodIn_r _ [21, 1, 8, 9, 10, 11, 6, 12, 13, 14, 15, 16, 17, 22, 23, 24, 25, 26, 27, 28, 29, 30, 31, 32, 33, 34, 35, 36, 37, 49, 50, 51, 52, 53, 54, 55, 56, 57, 58, 59, 60, 61] (by decide +kernel) (by decide +kernel)
set_option maxRecDepth 20000 in
theorem gX2_movement_X2_sumOfPrices : GoodIn wsX2_movement (wsV RX2 48 RX2 yX2_sumOfPrices wsX2_sumOfPrices) := goodIn_app (goodIn_of _ (by decide +kernel)) ggX2_movement_X2_sumOfPrices
set_option maxRecDepth 20000 in
theorem ggX2_movement_X5_over : GoodIn wsX2_movement wsX5_over := goodIn_r _ [40, 31, 32, 29, 33, 41, 42, 43, 44, 34, 35, 36, 37] (by decide +kernel) (by decide +kernel)
set_option maxRecDepth 20000 in
theorem gX2_movement_X5_over : GoodIn wsX2_movement (va_wsS RX2 52 yX5_over wsX5_over) := goodIn_app (goodIn_of _ (by decide +kernel)) ggX2_movement_X5_over
set_option maxRecDepth 20000 in
theorem ggX2_movement_X2_sumOfRatios : GoodIn wsX2_movement wsX2_sumOfRatios := goodIn_r _ [48, 1, 8, 9, 10, 11, 6, 12, 13, 14, 15, 16, 17, 22, 23, 24, 25, 26, 38, 39, 29, 40, 31, 32, 33, 41, 42, 43, 44, 34, 35, 36, 37, 27, 28, 30, 49, 50, 51, 52, 53, 54, 55, 56, 57, 58, 59, 60, 61] (by decide +kernel) (by decide +kernel)
set_option maxRecDepth 20000 in
theorem gX2_movement_X2_sumOfRatios : GoodIn wsX2_movement (wsV RX2 58 RX2 yX2_sumOfRatios wsX2_sumOfRatios) := goodIn_app (goodIn_of _ (by decide +kernel)) ggX2_movement_X2_sumOfRatios
theorem dX2_movement_0 : decode cX2_movement 0 = .ok (.aload_n 0, 1) := by decide +kernel
theorem dX2_movement_1 : decode cX2_movement 1 = .ok (.iload_n 1, 1) := by decide +kernel
theorem dX2_movement_2 : decode cX2_movement 2 = .ok (.iload_n 2, 1) := by decide +kernel
theorem dX2_movement_3 : decode cX2_movement 3 = .ok (.iload_n 3, 1) := by decide +kernel
theorem dX2_movement_4 : decode cX2_movement 4 = .ok (.invokevirtual 41, 3) := by decide +kernel
theorem dX2_movement_7 : decode cX2_movement 7 = .ok (.istore 4, 2) := by decide +kernel
theorem dX2_movement_9 : decode cX2_movement 9 = .ok (.iload 4, 2) := by decide +kernel
theorem dX2_movement_11 : decode cX2_movement 11 = .ok (.ifCond .ne 5, 3) := by decide +kernel
theorem dX2_movement_14 : decode cX2_movement 14 = .ok (.fconst 1, 1) := by decide +kernel
theorem dX2_movement_15 : decode cX2_movement 15 = .ok (.freturn, 1) := by decide +kernel
theorem dX2_movement_16 : decode cX2_movement 16 = .ok (.aload_n 0, 1) := by decide +kernel
theorem dX2_movement_17 : decode cX2_movement 17 = .ok (.getfield 19, 3) := by decide +kernel
theorem dX2_movement_20 : decode cX2_movement 20 = .ok (.getfield 45, 3) := by decide +kernel
theorem dX2_movement_23 : decode cX2_movement 23 = .ok (.ifCond .ne 23, 3) := by decide +kernel
theorem dX2_movement_26 : decode cX2_movement 26 = .ok (.aload_n 0, 1) := by decide +kernel
theorem dX2_movement_27 : decode cX2_movement 27 = .ok (.iload_n 1, 1) := by decide +kernel
theorem dX2_movement_28 : decode cX2_movement 28 = .ok (.iload_n 2, 1) := by decide +kernel
theorem dX2_movement_29 : decode cX2_movement 29 = .ok (.iload_n 3, 1) := by decide +kernel
theorem dX2_movement_30 : decode cX2_movement 30 = .ok (.iload_n 3, 1) := by decide +kernel
theorem dX2_movement_31 : decode cX2_movement 31 = .ok (.invokevirtual 48, 3) := by decide +kernel
theorem dX2_movement_34 : decode cX2_movement 34 = .ok (.aload_n 0, 1) := by decide +kernel
theorem dX2_movement_35 : decode cX2_movement 35 = .ok (.iload_n 1, 1) := by decide +kernel
theorem dX2_movement_36 : decode cX2_movement 36 = .ok (.iload_n 2, 1) := by decide +kernel
theorem dX2_movement_37 : decode cX2_movement 37 = .ok (.iload_n 3, 1) := by decide +kernel
theorem dX2_movement_38 : decode cX2_movement 38 = .ok (.iload_n 2, 1) := by decide +kernel
theorem dX2_movement_39 : decode cX2_movement 39 = .ok (.invokevirtual 48, 3) := by decide +kernel
theorem dX2_movement_42 : decode cX2_movement 42 = .ok (.invokestatic 52, 3) := by decide +kernel
theorem dX2_movement_45 : decode cX2_movement 45 = .ok (.freturn, 1) := by decide +kernel
theorem dX2_movement_46 : decode cX2_movement 46 = .ok (.aload_n 0, 1) := by decide +kernel
theorem dX2_movement_47 : decode cX2_movement 47 = .ok (.getfield 19, 3) := by decide +kernel
theorem dX2_movement_50 : decode cX2_movement 50 = .ok (.getfield 45, 3) := by decide +kernel
theorem dX2_movement_53 : decode cX2_movement 53 = .ok (.iconst 1, 1) := by decide +kernel
theorem dX2_movement_54 : decode cX2_movement 54 = .ok (.if_icmp .ne 17, 3) := by decide +kernel
theorem dX2_movement_57 : decode cX2_movement 57 = .ok (.aload_n 0, 1) := by decide +kernel
theorem dX2_movement_58 : decode cX2_movement 58 = .ok (.iload_n 1, 1) := by decide +kernel
theorem dX2_movement_59 : decode cX2_movement 59 = .ok (.iload_n 2, 1) := by decide +kernel
theorem dX2_movement_60 : decode cX2_movement 60 = .ok (.iload_n 3, 1) := by decide +kernel
theorem dX2_movement_61 : decode cX2_movement 61 = .ok (.invokevirtual 58, 3) := by decide +kernel
theorem dX2_movement_64 : decode cX2_movement 64 = .ok (.iload 4, 2) := by decide +kernel
theorem dX2_movement_66 : decode cX2_movement 66 = .ok (.i2f, 1) := by decide +kernel
theorem dX2_movement_67 : decode cX2_movement 67 = .ok (.invokestatic 52, 3) := by decide +kernel
theorem dX2_movement_70 : decode cX2_movement 70 = .ok (.freturn, 1) := by decide +kernel
theorem dX2_movement_71 : decode cX2_movement 71 = .ok (.iload 4, 2) := by decide +kernel
theorem dX2_movement_73 : decode cX2_movement 73 = .ok (.i2f, 1) := by decide +kernel
theorem dX2_movement_74 : decode cX2_movement 74 = .ok (.aload_n 0, 1) := by decide +kernel
theorem dX2_movement_75 : decode cX2_movement 75 = .ok (.iload_n 1, 1) := by decide +kernel
theorem dX2_movement_76 : decode cX2_movement 76 = .ok (.iload_n 3, 1) := by decide +kernel
theorem dX2_movement_77 : decode cX2_movement 77 = .ok (.iload_n 2, 1) := by decide +kernel
theorem dX2_movement_78 : decode cX2_movement 78 = .ok (.invokevirtual 58, 3) := by decide +kernel
theorem dX2_movement_81 : decode cX2_movement 81 = .ok (.invokestatic 52, 3) := by decide +kernel
theorem dX2_movement_84 : decode cX2_movement 84 = .ok (.freturn, 1) := by decide +kernel
set_option maxRecDepth 20000 in
theorem ggX2_sumOfPrices_X2_isMatched : GoodIn wsX2_sumOfPrices wsX2_isMatched := goodIn_r _ [7, 1, 8, 9, 10, 11, 12, 29, 30, 31, 32, 33, 34, 35, 36, 37, 38, 39, 40, 41] (by decide +kernel) (by decide +kernel)
set_option maxRecDepth 20000 in
theorem gX2_sumOfPrices_X2_isMatched : GoodIn wsX2_sumOfPrices (wsV RX2 37 RX2 yX2_isMatched wsX2_isMatched) := goodIn_app (goodIn_of _ (by decide +kernel)) ggX2_sumOfPrices_X2_isMatched
set_option maxRecDepth 20000 in
theorem ggX2_sumOfPrices_X2_get : GoodIn wsX2_sumOfPrices wsX2_get := goodIn_r _ [16, 17, 10, 11, 12, 29, 30, 31] (by decide +kernel) (by decide +kernel)
set_option maxRecDepth 20000 in
theorem gX2_sumOfPrices_X2_get : GoodIn wsX2_sumOfPrices (wsV RX2 62 RX2 yX2_get wsX2_get) := goodIn_app (goodIn_of _ (by decide +kernel)) ggX2_sumOfPrices_X2_get
set_option maxRecDepth 20000 in
theorem ggX2_sumOfPrices_X5_plus : GoodIn wsX2_sumOfPrices wsX5_plus := goodIn_r _ [21, 22, 23, 20, 24, 25, 26, 27, 28] (by decide +kernel) (by decide +kernel)
set_option maxRecDepth 20000 in
theorem gX2_sumOfPrices_X5_plus : GoodIn wsX2_sumOfPrices (va_wsS RX2 66 yX5_plus wsX5_plus) := goodIn_app (goodIn_of _ (by decide +kernel)) ggX2_sumOfPrices_X5_plus
theorem dX2_sumOfPrices_0 : decode cX2_sumOfPrices 0 = .ok (.fconst 0, 1) := by decide +kernel
theorem dX2_sumOfPrices_1 : decode cX2_sumOfPrices 1 = .ok (.fstore 5, 2) := by decide +kernel
theorem dX2_sumOfPrices_3 : decode cX2_sumOfPrices 3 = .ok (.iconst 0, 1) := by decide +kernel
theorem dX2_sumOfPrices_4 : decode cX2_sumOfPrices 4 = .ok (.istore 6, 2) := by decide +kernel
theorem dX2_sumOfPrices_6 : decode cX2_sumOfPrices 6 = .ok (.iload 6, 2) := by decide +kernel
theorem dX2_sumOfPrices_8 : decode cX2_sumOfPrices 8 = .ok (.aload_n 0, 1) := by decide +kernel
theorem dX2_sumOfPrices_9 : decode cX2_sumOfPrices 9 = .ok (.getfield 19, 3) := by decide +kernel
theorem dX2_sumOfPrices_12 : decode cX2_sumOfPrices 12 = .ok (.getfield 33, 3) := by decide +kernel
theorem dX2_sumOfPrices_15 : decode cX2_sumOfPrices 15 = .ok (.if_icmp .ge 36, 3) := by decide +kernel
theorem dX2_sumOfPrices_18 : decode cX2_sumOfPrices 18 = .ok (.aload_n 0, 1) := by decide +kernel
theorem dX2_sumOfPrices_19 : decode cX2_sumOfPrices 19 = .ok (.iload 6, 2) := by decide +kernel
theorem dX2_sumOfPrices_21 : decode cX2_sumOfPrices 21 = .ok (.iload_n 1, 1) := by decide +kernel
theorem dX2_sumOfPrices_22 : decode cX2_sumOfPrices 22 = .ok (.iload_n 2, 1) := by decide +kernel
theorem dX2_sumOfPrices_23 : decode cX2_sumOfPrices 23 = .ok (.iload_n 3, 1) := by decide +kernel
theorem dX2_sumOfPrices_24 : decode cX2_sumOfPrices 24 = .ok (.invokevirtual 37, 3) := by decide +kernel
theorem dX2_sumOfPrices_27 : decode cX2_sumOfPrices 27 = .ok (.ifCond .eq 18, 3) := by decide +kernel
theorem dX2_sumOfPrices_30 : decode cX2_sumOfPrices 30 = .ok (.fload 5, 2) := by decide +kernel
theorem dX2_sumOfPrices_32 : decode cX2_sumOfPrices 32 = .ok (.aload_n 0, 1) := by decide +kernel
theorem dX2_sumOfPrices_33 : decode cX2_sumOfPrices 33 = .ok (.iload 6, 2) := by decide +kernel
theorem dX2_sumOfPrices_35 : decode cX2_sumOfPrices 35 = .ok (.iload 4, 2) := by decide +kernel
theorem dX2_sumOfPrices_37 : decode cX2_sumOfPrices 37 = .ok (.invokevirtual 62, 3) := by decide +kernel
theorem dX2_sumOfPrices_40 : decode cX2_sumOfPrices 40 = .ok (.invokestatic 66, 3) := by decide +kernel
theorem dX2_sumOfPrices_43 : decode cX2_sumOfPrices 43 = .ok (.fstore 5, 2) := by decide +kernel
theorem dX2_sumOfPrices_45 : decode cX2_sumOfPrices 45 = .ok (.iinc 6 1, 3) := by decide +kernel
theorem dX2_sumOfPrices_48 : decode cX2_sumOfPrices 48 = .ok (.goto (-42), 3) := by decide +kernel
theorem dX2_sumOfPrices_51 : decode cX2_sumOfPrices 51 = .ok (.fload 5, 2) := by decide +kernel
theorem dX2_sumOfPrices_53 : decode cX2_sumOfPrices 53 = .ok (.freturn, 1) := by decide +kernel
set_option maxRecDepth 20000 in
theorem ggX2_sumOfRatios_X2_isMatched : GoodIn wsX2_sumOfRatios wsX2_isMatched := goodIn_r _ [7, 1, 8, 9, 10, 11, 12, 36, 37, 38, 39, 40, 41, 42, 43, 44, 45, 46, 47, 48] (by decide +kernel) (by decide +kernel)
set_option maxRecDepth 20000 in
theorem gX2_sumOfRatios_X2_isMatched : GoodIn wsX2_sumOfRatios (wsV RX2 37 RX2 yX2_isMatched wsX2_isMatched) := goodIn_app (goodIn_of _ (by decide +kernel)) ggX2_sumOfRatios_X2_isMatched
set_option maxRecDepth 20000 in
theorem ggX2_sumOfRatios_X2_get : GoodIn wsX2_sumOfRatios wsX2_get := goodIn_r _ [16, 17, 10, 11, 12, 36, 37, 38] (by decide +kernel) (by decide +kernel)
set_option maxRecDepth 20000 in
theorem gX2_sumOfRatios_X2_get : GoodIn wsX2_sumOfRatios (wsV RX2 62 RX2 yX2_get wsX2_get) := goodIn_app (goodIn_of _ (by decide +kernel)) ggX2_sumOfRatios_X2_get
set_option maxRecDepth 20000 in
theorem ggX2_sumOfRatios_X5_over : GoodIn wsX2_sumOfRatios wsX5_over := goodIn_r _ [21, 22, 23, 20, 24, 25, 26, 27, 28, 29, 30, 31, 32] (by decide +kernel) (by decide +kernel)
set_option maxRecDepth 20000 in
theorem gX2_sumOfRatios_X5_over : GoodIn wsX2_sumOfRatios (va_wsS RX2 52 yX5_over wsX5_over) := goodIn_app (goodIn_of _ (by decide +kernel)) ggX2_sumOfRatios_X5_over
set_option maxRecDepth 20000 in
theorem ggX2_sumOfRatios_X5_plus : GoodIn wsX2_sumOfRatios wsX5_plus := goodIn_r _ [35, 22, 23, 20, 24, 29, 30, 31, 32] (by decide +kernel) (by decide +kernel)
set_option maxRecDepth 20000 in
theorem gX2_sumOfRatios_X5_plus : GoodIn wsX2_sumOfRatios (va_wsS RX2 66 yX5_plus wsX5_plus) := goodIn_app (goodIn_of _ (by decide +kernel)) ggX2_sumOfRatios_X5_plus
theorem dX2_sumOfRatios_0 : decode cX2_sumOfRatios 0 = .ok (.fconst 0, 1) := by decide +kernel
theorem dX2_sumOfRatios_1 : decode cX2_sumOfRatios 1 = .ok (.fstore 4, 2) := by decide +kernel
theorem dX2_sumOfRatios_3 : decode cX2_sumOfRatios 3 = .ok (.iconst 0, 1) := by decide +kernel
theorem dX2_sumOfRatios_4 : decode cX2_sumOfRatios 4 = .ok (.istore 5, 2) := by decide +kernel
theorem dX2_sumOfRatios_6 : decode cX2_sumOfRatios 6 = .ok (.iload 5, 2) := by decide +kernel
theorem dX2_sumOfRatios_8 : decode cX2_sumOfRatios 8 = .ok (.aload_n 0, 1) := by decide +kernel
theorem dX2_sumOfRatios_9 : decode cX2_sumOfRatios 9 = .ok (.getfield 19, 3) := by decide +kernel
theorem dX2_sumOfRatios_12 : decode cX2_sumOfRatios 12 = .ok (.getfield 33, 3) := by decide +kernel
theorem dX2_sumOfRatios_15 : decode cX2_sumOfRatios 15 = .ok (.if_icmp .ge 45, 3) := by decide +kernel
theorem dX2_sumOfRatios_18 : decode cX2_sumOfRatios 18 = .ok (.aload_n 0, 1) := by decide +kernel
theorem dX2_sumOfRatios_19 : decode cX2_sumOfRatios 19 = .ok (.iload 5, 2) := by decide +kernel
theorem dX2_sumOfRatios_21 : decode cX2_sumOfRatios 21 = .ok (.iload_n 1, 1) := by decide +kernel
theorem dX2_sumOfRatios_22 : decode cX2_sumOfRatios 22 = .ok (.iload_n 2, 1) := by decide +kernel
theorem dX2_sumOfRatios_23 : decode cX2_sumOfRatios 23 = .ok (.iload_n 3, 1) := by decide +kernel
theorem dX2_sumOfRatios_24 : decode cX2_sumOfRatios 24 = .ok (.invokevirtual 37, 3) := by decide +kernel
theorem dX2_sumOfRatios_27 : decode cX2_sumOfRatios 27 = .ok (.ifCond .eq 27, 3) := by decide +kernel
theorem dX2_sumOfRatios_30 : decode cX2_sumOfRatios 30 = .ok (.fload 4, 2) := by decide +kernel
theorem dX2_sumOfRatios_32 : decode cX2_sumOfRatios 32 = .ok (.aload_n 0, 1) := by decide +kernel
theorem dX2_sumOfRatios_33 : decode cX2_sumOfRatios 33 = .ok (.iload 5, 2) := by decide +kernel
theorem dX2_sumOfRatios_35 : decode cX2_sumOfRatios 35 = .ok (.iload_n 3, 1) := by decide +kernel
theorem dX2_sumOfRatios_36 : decode cX2_sumOfRatios 36 = .ok (.invokevirtual 62, 3) := by decide +kernel
theorem dX2_sumOfRatios_39 : decode cX2_sumOfRatios 39 = .ok (.aload_n 0, 1) := by decide +kernel
theorem dX2_sumOfRatios_40 : decode cX2_sumOfRatios 40 = .ok (.iload 5, 2) := by decide +kernel
theorem dX2_sumOfRatios_42 : decode cX2_sumOfRatios 42 = .ok (.iload_n 2, 1) := by decide +kernel
theorem dX2_sumOfRatios_43 : decode cX2_sumOfRatios 43 = .ok (.invokevirtual 62, 3) := by decide +kernel
theorem dX2_sumOfRatios_46 : decode cX2_sumOfRatios 46 = .ok (.invokestatic 52, 3) := by decide +kernel
theorem dX2_sumOfRatios_49 : decode cX2_sumOfRatios 49 = .ok (.invokestatic 66, 3) := by decide +kernel
theorem dX2_sumOfRatios_52 : decode cX2_sumOfRatios 52 = .ok (.fstore 4, 2) := by decide +kernel
theorem dX2_sumOfRatios_54 : decode cX2_sumOfRatios 54 = .ok (.iinc 5 1, 3) := by decide +kernel
theorem dX2_sumOfRatios_57 : decode cX2_sumOfRatios 57 = .ok (.goto (-51), 3) := by decide +kernel
theorem dX2_sumOfRatios_60 : decode cX2_sumOfRatios 60 = .ok (.fload 4, 2) := by decide +kernel
theorem dX2_sumOfRatios_62 : decode cX2_sumOfRatios 62 = .ok (.freturn, 1) := by decide +kernel
set_option maxRecDepth 20000 in
theorem ggX2_steepest_X2_isMatched : GoodIn wsX2_steepest wsX2_isMatched := goodIn_r _ [7, 1, 8, 9, 10, 11, 12, 33, 34, 35, 36, 37, 38, 39, 40, 41, 42, 43, 44, 45] (by decide +kernel) (by decide +kernel)
set_option maxRecDepth 20000 in
theorem gX2_steepest_X2_isMatched : GoodIn wsX2_steepest (wsV RX2 37 RX2 yX2_isMatched wsX2_isMatched) := goodIn_app (goodIn_of _ (by decide +kernel)) ggX2_steepest_X2_isMatched
set_option maxRecDepth 20000 in
theorem ggX2_steepest_X2_get : GoodIn wsX2_steepest wsX2_get := goodIn_r _ [16, 17, 10, 11, 12, 33, 34, 35] (by decide +kernel) (by decide +kernel)
set_option maxRecDepth 20000 in
theorem gX2_steepest_X2_get : GoodIn wsX2_steepest (wsV RX2 62 RX2 yX2_get wsX2_get) := goodIn_app (goodIn_of _ (by decide +kernel)) ggX2_steepest_X2_get
set_option maxRecDepth 20000 in
theorem ggX2_steepest_X5_over : GoodIn wsX2_steepest wsX5_over := goodIn_r _ [21, 22, 23, 20, 24, 25, 26, 27, 28, 29, 30, 31, 32] (by decide +kernel) (by decide +kernel)
set_option maxRecDepth 20000 in
theorem gX2_steepest_X5_over : GoodIn wsX2_steepest (va_wsS RX2 52 yX5_over wsX5_over) := goodIn_app (goodIn_of _ (by decide +kernel)) ggX2_steepest_X5_over
theorem dX2_steepest_0 : decode cX2_steepest 0 = .ok (.iconst (-1), 1) := by decide +kernel
theorem dX2_steepest_1 : decode cX2_steepest 1 = .ok (.istore 4, 2) := by decide +kernel
theorem dX2_steepest_3 : decode cX2_steepest 3 = .ok (.fconst 0, 1) := by decide +kernel
theorem dX2_steepest_4 : decode cX2_steepest 4 = .ok (.fstore 5, 2) := by decide +kernel
theorem dX2_steepest_6 : decode cX2_steepest 6 = .ok (.iconst 0, 1) := by decide +kernel
theorem dX2_steepest_7 : decode cX2_steepest 7 = .ok (.istore 6, 2) := by decide +kernel
theorem dX2_steepest_9 : decode cX2_steepest 9 = .ok (.iload 6, 2) := by decide +kernel
theorem dX2_steepest_11 : decode cX2_steepest 11 = .ok (.aload_n 0, 1) := by decide +kernel
theorem dX2_steepest_12 : decode cX2_steepest 12 = .ok (.getfield 19, 3) := by decide +kernel
theorem dX2_steepest_15 : decode cX2_steepest 15 = .ok (.getfield 33, 3) := by decide +kernel
theorem dX2_steepest_18 : decode cX2_steepest 18 = .ok (.if_icmp .ge 62, 3) := by decide +kernel
theorem dX2_steepest_21 : decode cX2_steepest 21 = .ok (.aload_n 0, 1) := by decide +kernel
theorem dX2_steepest_22 : decode cX2_steepest 22 = .ok (.iload 6, 2) := by decide +kernel
theorem dX2_steepest_24 : decode cX2_steepest 24 = .ok (.iload_n 1, 1) := by decide +kernel
theorem dX2_steepest_25 : decode cX2_steepest 25 = .ok (.iload_n 2, 1) := by decide +kernel
theorem dX2_steepest_26 : decode cX2_steepest 26 = .ok (.iload_n 3, 1) := by decide +kernel
theorem dX2_steepest_27 : decode cX2_steepest 27 = .ok (.invokevirtual 37, 3) := by decide +kernel
theorem dX2_steepest_30 : decode cX2_steepest 30 = .ok (.ifCond .eq 44, 3) := by decide +kernel
theorem dX2_steepest_33 : decode cX2_steepest 33 = .ok (.aload_n 0, 1) := by decide +kernel
theorem dX2_steepest_34 : decode cX2_steepest 34 = .ok (.iload 6, 2) := by decide +kernel
theorem dX2_steepest_36 : decode cX2_steepest 36 = .ok (.iload_n 3, 1) := by decide +kernel
theorem dX2_steepest_37 : decode cX2_steepest 37 = .ok (.invokevirtual 62, 3) := by decide +kernel
theorem dX2_steepest_40 : decode cX2_steepest 40 = .ok (.aload_n 0, 1) := by decide +kernel
theorem dX2_steepest_41 : decode cX2_steepest 41 = .ok (.iload 6, 2) := by decide +kernel
theorem dX2_steepest_43 : decode cX2_steepest 43 = .ok (.iload_n 2, 1) := by decide +kernel
theorem dX2_steepest_44 : decode cX2_steepest 44 = .ok (.invokevirtual 62, 3) := by decide +kernel
theorem dX2_steepest_47 : decode cX2_steepest 47 = .ok (.invokestatic 52, 3) := by decide +kernel
theorem dX2_steepest_50 : decode cX2_steepest 50 = .ok (.fstore 7, 2) := by decide +kernel
theorem dX2_steepest_52 : decode cX2_steepest 52 = .ok (.iload 4, 2) := by decide +kernel
theorem dX2_steepest_54 : decode cX2_steepest 54 = .ok (.iconst (-1), 1) := by decide +kernel
theorem dX2_steepest_55 : decode cX2_steepest 55 = .ok (.if_icmp .eq 11, 3) := by decide +kernel
theorem dX2_steepest_58 : decode cX2_steepest 58 = .ok (.fload 7, 2) := by decide +kernel
theorem dX2_steepest_60 : decode cX2_steepest 60 = .ok (.fload 5, 2) := by decide +kernel
theorem dX2_steepest_62 : decode cX2_steepest 62 = .ok (.fcmp .l, 1) := by decide +kernel
theorem dX2_steepest_63 : decode cX2_steepest 63 = .ok (.ifCond .le 11, 3) := by decide +kernel
theorem dX2_steepest_66 : decode cX2_steepest 66 = .ok (.iload 6, 2) := by decide +kernel
theorem dX2_steepest_68 : decode cX2_steepest 68 = .ok (.istore 4, 2) := by decide +kernel
theorem dX2_steepest_70 : decode cX2_steepest 70 = .ok (.fload 7, 2) := by decide +kernel
theorem dX2_steepest_72 : decode cX2_steepest 72 = .ok (.fstore 5, 2) := by decide +kernel
theorem dX2_steepest_74 : decode cX2_steepest 74 = .ok (.iinc 6 1, 3) := by decide +kernel
theorem dX2_steepest_77 : decode cX2_steepest 77 = .ok (.goto (-68), 3) := by decide +kernel
theorem dX2_steepest_80 : decode cX2_steepest 80 = .ok (.iload 4, 2) := by decide +kernel
theorem dX2_steepest_82 : decode cX2_steepest 82 = .ok (.ireturn, 1) := by decide +kernel
set_option maxRecDepth 20000 in
theorem ggX3_init_X2_init : GoodIn wsX3_init wsX2_init := goodIn_r _ [12, 13, 2, 3, 14, 15, 16, 17, 18, 23, 24, 25] (by decide +kernel) (by decide +kernel)
set_option maxRecDepth 20000 in
theorem gX3_init_X2_init : GoodIn wsX3_init (wsX2_init) := ggX3_init_X2_init
