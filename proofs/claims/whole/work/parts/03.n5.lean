theorem dX5_nan_0 : decode cX5_nan 0 = .ok (.ldc 7, 2) := by decide +kernel
theorem dX5_nan_2 : decode cX5_nan 2 = .ok (.freturn, 1) := by decide +kernel
theorem dX5_isNan_0 : decode cX5_isNan 0 = .ok (.fload_n 0, 1) := by decide +kernel
theorem dX5_isNan_1 : decode cX5_isNan 1 = .ok (.fconst 0, 1) := by decide +kernel
theorem dX5_isNan_2 : decode cX5_isNan 2 = .ok (.fcmp .g, 1) := by decide +kernel
theorem dX5_isNan_3 : decode cX5_isNan 3 = .ok (.ifCond .ge 7, 3) := by decide +kernel
theorem dX5_isNan_6 : decode cX5_isNan 6 = .ok (.iconst 1, 1) := by decide +kernel
theorem dX5_isNan_7 : decode cX5_isNan 7 = .ok (.goto 4, 3) := by decide +kernel
theorem dX5_isNan_10 : decode cX5_isNan 10 = .ok (.iconst 0, 1) := by decide +kernel
theorem dX5_isNan_11 : decode cX5_isNan 11 = .ok (.ireturn, 1) := by decide +kernel
theorem dX5_isInfinite_0 : decode cX5_isInfinite 0 = .ok (.fload_n 0, 1) := by decide +kernel
theorem dX5_isInfinite_1 : decode cX5_isInfinite 1 = .ok (.ldc 8, 2) := by decide +kernel
theorem dX5_isInfinite_3 : decode cX5_isInfinite 3 = .ok (.fcmp .l, 1) := by decide +kernel
theorem dX5_isInfinite_4 : decode cX5_isInfinite 4 = .ok (.ifCond .le 7, 3) := by decide +kernel
theorem dX5_isInfinite_7 : decode cX5_isInfinite 7 = .ok (.iconst 1, 1) := by decide +kernel
theorem dX5_isInfinite_8 : decode cX5_isInfinite 8 = .ok (.goto 4, 3) := by decide +kernel
theorem dX5_isInfinite_11 : decode cX5_isInfinite 11 = .ok (.iconst 0, 1) := by decide +kernel
theorem dX5_isInfinite_12 : decode cX5_isInfinite 12 = .ok (.ireturn, 1) := by decide +kernel
set_option maxRecDepth 20000 in
theorem ggX5_plus_X5_isNan : GoodIn wsX5_plus wsX5_isNan := goodIn_r _ [4] (by decide +kernel) (by decide +kernel)
set_option maxRecDepth 20000 in
theorem gX5_plus_X5_isNan : GoodIn wsX5_plus (va_wsS RX5 9 yX5_isNan wsX5_isNan) := goodIn_app (goodIn_of _ (by decide +kernel)) ggX5_plus_X5_isNan
set_option maxRecDepth 20000 in
theorem ggX5_plus_X5_nan : GoodIn wsX5_plus wsX5_nan := goodIn_r _ [7, 8] (by decide +kernel) (by decide +kernel)
set_option maxRecDepth 20000 in
theorem gX5_plus_X5_nan : GoodIn wsX5_plus (va_wsS RX5 15 yX5_nan wsX5_nan) := goodIn_app (goodIn_of _ (by decide +kernel)) ggX5_plus_X5_nan
theorem dX5_plus_0 : decode cX5_plus 0 = .ok (.fload_n 0, 1) := by decide +kernel
theorem dX5_plus_1 : decode cX5_plus 1 = .ok (.invokestatic 9, 3) := by decide +kernel
theorem dX5_plus_4 : decode cX5_plus 4 = .ok (.ifCond .ne 10, 3) := by decide +kernel
theorem dX5_plus_7 : decode cX5_plus 7 = .ok (.fload_n 1, 1) := by decide +kernel
theorem dX5_plus_8 : decode cX5_plus 8 = .ok (.invokestatic 9, 3) := by decide +kernel
theorem dX5_plus_11 : decode cX5_plus 11 = .ok (.ifCond .eq 7, 3) := by decide +kernel
theorem dX5_plus_14 : decode cX5_plus 14 = .ok (.invokestatic 15, 3) := by decide +kernel
theorem dX5_plus_17 : decode cX5_plus 17 = .ok (.freturn, 1) := by decide +kernel
theorem dX5_plus_18 : decode cX5_plus 18 = .ok (.fload_n 0, 1) := by decide +kernel
theorem dX5_plus_19 : decode cX5_plus 19 = .ok (.fload_n 1, 1) := by decide +kernel
theorem dX5_plus_20 : decode cX5_plus 20 = .ok (.fadd, 1) := by decide +kernel
theorem dX5_plus_21 : decode cX5_plus 21 = .ok (.freturn, 1) := by decide +kernel
set_option maxRecDepth 20000 in
theorem ggX5_times_X5_isNan : GoodIn wsX5_times wsX5_isNan := goodIn_r _ [4] (by decide +kernel) (by decide +kernel)
set_option maxRecDepth 20000 in
theorem gX5_times_X5_isNan : GoodIn wsX5_times (va_wsS RX5 9 yX5_isNan wsX5_isNan) := goodIn_app (goodIn_of _ (by decide +kernel)) ggX5_times_X5_isNan
set_option maxRecDepth 20000 in
theorem ggX5_times_X5_isInfinite : GoodIn wsX5_times wsX5_isInfinite := goodIn_r _ [7, 8] (by decide +kernel) (by decide +kernel)
set_option maxRecDepth 20000 in
theorem gX5_times_X5_isInfinite : GoodIn wsX5_times (va_wsS RX5 19 yX5_isInfinite wsX5_isInfinite) := goodIn_app (goodIn_of _ (by decide +kernel)) ggX5_times_X5_isInfinite
set_option maxRecDepth 20000 in
theorem ggX5_times_X5_nan : GoodIn wsX5_times wsX5_nan := goodIn_r _ [11, 12] (by decide +kernel) (by decide +kernel)
set_option maxRecDepth 20000 in
theorem gX5_times_X5_nan : GoodIn wsX5_times (va_wsS RX5 15 yX5_nan wsX5_nan) := goodIn_app (goodIn_of _ (by decide +kernel)) ggX5_times_X5_nan
theorem dX5_times_0 : decode cX5_times 0 = .ok (.fload_n 0, 1) := by decide +kernel
theorem dX5_times_1 : decode cX5_times 1 = .ok (.invokestatic 9, 3) := by decide +kernel
theorem dX5_times_4 : decode cX5_times 4 = .ok (.ifCond .ne 36, 3) := by decide +kernel
theorem dX5_times_7 : decode cX5_times 7 = .ok (.fload_n 1, 1) := by decide +kernel
theorem dX5_times_8 : decode cX5_times 8 = .ok (.invokestatic 9, 3) := by decide +kernel
theorem dX5_times_11 : decode cX5_times 11 = .ok (.ifCond .ne 29, 3) := by decide +kernel
theorem dX5_times_14 : decode cX5_times 14 = .ok (.fload_n 0, 1) := by decide +kernel
theorem dX5_times_15 : decode cX5_times 15 = .ok (.fconst 0, 1) := by decide +kernel
theorem dX5_times_16 : decode cX5_times 16 = .ok (.fcmp .l, 1) := by decide +kernel
theorem dX5_times_17 : decode cX5_times 17 = .ok (.ifCond .ne 10, 3) := by decide +kernel
theorem dX5_times_20 : decode cX5_times 20 = .ok (.fload_n 1, 1) := by decide +kernel
theorem dX5_times_21 : decode cX5_times 21 = .ok (.invokestatic 19, 3) := by decide +kernel
theorem dX5_times_24 : decode cX5_times 24 = .ok (.ifCond .ne 16, 3) := by decide +kernel
theorem dX5_times_27 : decode cX5_times 27 = .ok (.fload_n 0, 1) := by decide +kernel
theorem dX5_times_28 : decode cX5_times 28 = .ok (.invokestatic 19, 3) := by decide +kernel
theorem dX5_times_31 : decode cX5_times 31 = .ok (.ifCond .eq 13, 3) := by decide +kernel
theorem dX5_times_34 : decode cX5_times 34 = .ok (.fload_n 1, 1) := by decide +kernel
theorem dX5_times_35 : decode cX5_times 35 = .ok (.fconst 0, 1) := by decide +kernel
theorem dX5_times_36 : decode cX5_times 36 = .ok (.fcmp .l, 1) := by decide +kernel
theorem dX5_times_37 : decode cX5_times 37 = .ok (.ifCond .ne 7, 3) := by decide +kernel
theorem dX5_times_40 : decode cX5_times 40 = .ok (.invokestatic 15, 3) := by decide +kernel
theorem dX5_times_43 : decode cX5_times 43 = .ok (.freturn, 1) := by decide +kernel
theorem dX5_times_44 : decode cX5_times 44 = .ok (.fload_n 0, 1) := by decide +kernel
theorem dX5_times_45 : decode cX5_times 45 = .ok (.fload_n 1, 1) := by decide +kernel
theorem dX5_times_46 : decode cX5_times 46 = .ok (.fmul, 1) := by decide +kernel
theorem dX5_times_47 : decode cX5_times 47 = .ok (.freturn, 1) := by decide +kernel
set_option maxRecDepth 20000 in
theorem ggX5_over_X5_isNan : GoodIn wsX5_over wsX5_isNan := goodIn_r _ [4] (by decide +kernel) (by decide +kernel)
set_option maxRecDepth 20000 in
theorem gX5_over_X5_isNan : GoodIn wsX5_over (va_wsS RX5 9 yX5_isNan wsX5_isNan) := goodIn_app (goodIn_of _ (by decide +kernel)) ggX5_over_X5_isNan
set_option maxRecDepth 20000 in
theorem ggX5_over_X5_isInfinite : GoodIn wsX5_over wsX5_isInfinite := goodIn_r _ [7, 8] (by decide +kernel) (by decide +kernel)
set_option maxRecDepth 20000 in
theorem gX5_over_X5_isInfinite : GoodIn wsX5_over (va_wsS RX5 19 yX5_isInfinite wsX5_isInfinite) := goodIn_app (goodIn_of _ (by decide +kernel)) ggX5_over_X5_isInfinite
set_option maxRecDepth 20000 in
theorem ggX5_over_X5_nan : GoodIn wsX5_over wsX5_nan := goodIn_r _ [11, 12] (by decide +kernel) (by decide +kernel)
set_option maxRecDepth 20000 in
theorem gX5_over_X5_nan : GoodIn wsX5_over (va_wsS RX5 15 yX5_nan wsX5_nan) := goodIn_app (goodIn_of _ (by decide +kernel)) ggX5_over_X5_nan
theorem dX5_over_0 : decode cX5_over 0 = .ok (.fload_n 0, 1) := by decide +kernel
theorem dX5_over_1 : decode cX5_over 1 = .ok (.invokestatic 9, 3) := by decide +kernel
theorem dX5_over_4 : decode cX5_over 4 = .ok (.ifCond .ne 36, 3) := by decide +kernel
theorem dX5_over_7 : decode cX5_over 7 = .ok (.fload_n 1, 1) := by decide +kernel
theorem dX5_over_8 : decode cX5_over 8 = .ok (.invokestatic 9, 3) := by decide +kernel
theorem dX5_over_11 : decode cX5_over 11 = .ok (.ifCond .ne 29, 3) := by decide +kernel
theorem dX5_over_14 : decode cX5_over 14 = .ok (.fload_n 0, 1) := by decide +kernel
theorem dX5_over_15 : decode cX5_over 15 = .ok (.fconst 0, 1) := by decide +kernel
theorem dX5_over_16 : decode cX5_over 16 = .ok (.fcmp .l, 1) := by decide +kernel
theorem dX5_over_17 : decode cX5_over 17 = .ok (.ifCond .ne 9, 3) := by decide +kernel
theorem dX5_over_20 : decode cX5_over 20 = .ok (.fload_n 1, 1) := by decide +kernel
theorem dX5_over_21 : decode cX5_over 21 = .ok (.fconst 0, 1) := by decide +kernel
theorem dX5_over_22 : decode cX5_over 22 = .ok (.fcmp .l, 1) := by decide +kernel
theorem dX5_over_23 : decode cX5_over 23 = .ok (.ifCond .eq 17, 3) := by decide +kernel
theorem dX5_over_26 : decode cX5_over 26 = .ok (.fload_n 0, 1) := by decide +kernel
theorem dX5_over_27 : decode cX5_over 27 = .ok (.invokestatic 19, 3) := by decide +kernel
theorem dX5_over_30 : decode cX5_over 30 = .ok (.ifCond .eq 14, 3) := by decide +kernel
theorem dX5_over_33 : decode cX5_over 33 = .ok (.fload_n 1, 1) := by decide +kernel
theorem dX5_over_34 : decode cX5_over 34 = .ok (.invokestatic 19, 3) := by decide +kernel
theorem dX5_over_37 : decode cX5_over 37 = .ok (.ifCond .eq 7, 3) := by decide +kernel
theorem dX5_over_40 : decode cX5_over 40 = .ok (.invokestatic 15, 3) := by decide +kernel
theorem dX5_over_43 : decode cX5_over 43 = .ok (.freturn, 1) := by decide +kernel
theorem dX5_over_44 : decode cX5_over 44 = .ok (.fload_n 0, 1) := by decide +kernel
theorem dX5_over_45 : decode cX5_over 45 = .ok (.fload_n 1, 1) := by decide +kernel
theorem dX5_over_46 : decode cX5_over 46 = .ok (.fdiv, 1) := by decide +kernel
theorem dX5_over_47 : decode cX5_over 47 = .ok (.freturn, 1) := by decide +kernel
set_option maxRecDepth 20000 in
theorem ggX5_hundredths_X5_isNan : GoodIn wsX5_hundredths wsX5_isNan := goodIn_r _ [6] (by decide +kernel) (by decide +kernel)
set_option maxRecDepth 20000 in
theorem gX5_hundredths_X5_isNan : GoodIn wsX5_hundredths (va_wsS RX5 9 yX5_isNan wsX5_isNan) := goodIn_app (goodIn_of _ (by decide +kernel)) ggX5_hundredths_X5_isNan
theorem dX5_hundredths_0 : decode cX5_hundredths 0 = .ok (.fload_n 0, 1) := by decide +kernel
theorem dX5_hundredths_1 : decode cX5_hundredths 1 = .ok (.invokestatic 9, 3) := by decide +kernel
theorem dX5_hundredths_4 : decode cX5_hundredths 4 = .ok (.ifCond .eq 7, 3) := by decide +kernel
theorem dX5_hundredths_7 : decode cX5_hundredths 7 = .ok (.iconst 0, 1) := by decide +kernel
theorem dX5_hundredths_8 : decode cX5_hundredths 8 = .ok (.goto 11, 3) := by decide +kernel
theorem dX5_hundredths_11 : decode cX5_hundredths 11 = .ok (.fload_n 0, 1) := by decide +kernel
theorem dX5_hundredths_12 : decode cX5_hundredths 12 = .ok (.ldc 22, 2) := by decide +kernel
theorem dX5_hundredths_14 : decode cX5_hundredths 14 = .ok (.fmul, 1) := by decide +kernel
theorem dX5_hundredths_15 : decode cX5_hundredths 15 = .ok (.ldc 23, 2) := by decide +kernel
theorem dX5_hundredths_17 : decode cX5_hundredths 17 = .ok (.fadd, 1) := by decide +kernel
theorem dX5_hundredths_18 : decode cX5_hundredths 18 = .ok (.f2i, 1) := by decide +kernel
theorem dX5_hundredths_19 : decode cX5_hundredths 19 = .ok (.ireturn, 1) := by decide +kernel
set_option maxRecDepth 20000 in
theorem ggX5_bits_X5_isNan : GoodIn wsX5_bits wsX5_isNan := goodIn_r _ [7] (by decide +kernel) (by decide +kernel)
set_option maxRecDepth 20000 in
theorem gX5_bits_X5_isNan : GoodIn wsX5_bits (va_wsS RX5 9 yX5_isNan wsX5_isNan) := goodIn_app (goodIn_of _ (by decide +kernel)) ggX5_bits_X5_isNan
set_option maxRecDepth 20000 in
theorem ggX5_bits_X5_isInfinite : GoodIn wsX5_bits wsX5_isInfinite := goodIn_r _ [10, 11] (by decide +kernel) (by decide +kernel)
set_option maxRecDepth 20000 in
theorem gX5_bits_X5_isInfinite : GoodIn wsX5_bits (va_wsS RX5 19 yX5_isInfinite wsX5_isInfinite) := goodIn_app (goodIn_of _ (by decide +kernel)) ggX5_bits_X5_isInfinite
theorem dX5_bits_0 : decode cX5_bits 0 = .ok (.fload_n 0, 1) := by decide +kernel
theorem dX5_bits_1 : decode cX5_bits 1 = .ok (.invokestatic 9, 3) := by decide +kernel
theorem dX5_bits_4 : decode cX5_bits 4 = .ok (.ifCond .eq 6, 3) := by decide +kernel
theorem dX5_bits_7 : decode cX5_bits 7 = .ok (.ldc 24, 2) := by decide +kernel
theorem dX5_bits_9 : decode cX5_bits 9 = .ok (.ireturn, 1) := by decide +kernel
theorem dX5_bits_10 : decode cX5_bits 10 = .ok (.fload_n 0, 1) := by decide +kernel
theorem dX5_bits_11 : decode cX5_bits 11 = .ok (.invokestatic 19, 3) := by decide +kernel
theorem dX5_bits_14 : decode cX5_bits 14 = .ok (.ifCond .eq 6, 3) := by decide +kernel
theorem dX5_bits_17 : decode cX5_bits 17 = .ok (.ldc 25, 2) := by decide +kernel
theorem dX5_bits_19 : decode cX5_bits 19 = .ok (.ireturn, 1) := by decide +kernel
theorem dX5_bits_20 : decode cX5_bits 20 = .ok (.fload_n 0, 1) := by decide +kernel
theorem dX5_bits_21 : decode cX5_bits 21 = .ok (.fstore_n 1, 1) := by decide +kernel
theorem dX5_bits_22 : decode cX5_bits 22 = .ok (.iconst 0, 1) := by decide +kernel
theorem dX5_bits_23 : decode cX5_bits 23 = .ok (.istore_n 2, 1) := by decide +kernel
theorem dX5_bits_24 : decode cX5_bits 24 = .ok (.iload_n 2, 1) := by decide +kernel
theorem dX5_bits_25 : decode cX5_bits 25 = .ok (.bipush 127, 2) := by decide +kernel
theorem dX5_bits_27 : decode cX5_bits 27 = .ok (.if_icmp .ge 19, 3) := by decide +kernel
theorem dX5_bits_30 : decode cX5_bits 30 = .ok (.fload_n 1, 1) := by decide +kernel
theorem dX5_bits_31 : decode cX5_bits 31 = .ok (.fconst 2, 1) := by decide +kernel
theorem dX5_bits_32 : decode cX5_bits 32 = .ok (.fcmp .l, 1) := by decide +kernel
theorem dX5_bits_33 : decode cX5_bits 33 = .ok (.ifCond .lt 13, 3) := by decide +kernel
theorem dX5_bits_36 : decode cX5_bits 36 = .ok (.fload_n 1, 1) := by decide +kernel
theorem dX5_bits_37 : decode cX5_bits 37 = .ok (.fconst 2, 1) := by decide +kernel
theorem dX5_bits_38 : decode cX5_bits 38 = .ok (.fdiv, 1) := by decide +kernel
theorem dX5_bits_39 : decode cX5_bits 39 = .ok (.fstore_n 1, 1) := by decide +kernel
theorem dX5_bits_40 : decode cX5_bits 40 = .ok (.iinc 2 1, 3) := by decide +kernel
theorem dX5_bits_43 : decode cX5_bits 43 = .ok (.goto (-19), 3) := by decide +kernel
theorem dX5_bits_46 : decode cX5_bits 46 = .ok (.iload_n 2, 1) := by decide +kernel
theorem dX5_bits_47 : decode cX5_bits 47 = .ok (.bipush (-126), 2) := by decide +kernel
theorem dX5_bits_49 : decode cX5_bits 49 = .ok (.if_icmp .le 19, 3) := by decide +kernel
theorem dX5_bits_52 : decode cX5_bits 52 = .ok (.fload_n 1, 1) := by decide +kernel
theorem dX5_bits_53 : decode cX5_bits 53 = .ok (.fconst 1, 1) := by decide +kernel
theorem dX5_bits_54 : decode cX5_bits 54 = .ok (.fcmp .g, 1) := by decide +kernel
theorem dX5_bits_55 : decode cX5_bits 55 = .ok (.ifCond .ge 13, 3) := by decide +kernel
theorem dX5_bits_58 : decode cX5_bits 58 = .ok (.fload_n 1, 1) := by decide +kernel
theorem dX5_bits_59 : decode cX5_bits 59 = .ok (.fconst 2, 1) := by decide +kernel
theorem dX5_bits_60 : decode cX5_bits 60 = .ok (.fmul, 1) := by decide +kernel
theorem dX5_bits_61 : decode cX5_bits 61 = .ok (.fstore_n 1, 1) := by decide +kernel
theorem dX5_bits_62 : decode cX5_bits 62 = .ok (.iinc 2 (-1), 3) := by decide +kernel
theorem dX5_bits_65 : decode cX5_bits 65 = .ok (.goto (-19), 3) := by decide +kernel
theorem dX5_bits_68 : decode cX5_bits 68 = .ok (.iload_n 2, 1) := by decide +kernel
theorem dX5_bits_69 : decode cX5_bits 69 = .ok (.bipush (-126), 2) := by decide +kernel
theorem dX5_bits_71 : decode cX5_bits 71 = .ok (.isub, 1) := by decide +kernel
theorem dX5_bits_72 : decode cX5_bits 72 = .ok (.bipush 23, 2) := by decide +kernel
theorem dX5_bits_74 : decode cX5_bits 74 = .ok (.ishl, 1) := by decide +kernel
theorem dX5_bits_75 : decode cX5_bits 75 = .ok (.fload_n 1, 1) := by decide +kernel
theorem dX5_bits_76 : decode cX5_bits 76 = .ok (.ldc 26, 2) := by decide +kernel
theorem dX5_bits_78 : decode cX5_bits 78 = .ok (.fmul, 1) := by decide +kernel
theorem dX5_bits_79 : decode cX5_bits 79 = .ok (.f2i, 1) := by decide +kernel
theorem dX5_bits_80 : decode cX5_bits 80 = .ok (.iadd, 1) := by decide +kernel
theorem dX5_bits_81 : decode cX5_bits 81 = .ok (.ireturn, 1) := by decide +kernel
set_option maxRecDepth 20000 in
theorem ggX6_init_X0_init : GoodIn wsX6_init wsX0_init := goodIn_r _ [22, 23, 2, 3, 24, 25, 26, 27, 28, 29, 30, 31, 32, 66, 67, 68, 69, 70, 71, 72, 73, 74, 75] (by decide +kernel) (by decide +kernel)
set_option maxRecDepth 20000 in
theorem gX6_init_X0_init : GoodIn wsX6_init (wsX0_init) := ggX6_init_X0_init
set_option maxRecDepth 20000 in
theorem ggX6_init_X1_init : GoodIn wsX6_init wsX1_init := goodIn_r _ [35, 36, 2, 3, 37, 38, 5, 6, 39, 21, 22, 23, 24, 25, 26, 27, 28, 29, 30, 31, 32, 80, 81, 82, 66, 67, 68, 69, 70, 71, 72, 73, 74, 75] (by decide +kernel) (by decide +kernel)
set_option maxRecDepth 20000 in
theorem gX6_init_X1_init : GoodIn wsX6_init (wsX1_init) := ggX6_init_X1_init
set_option maxRecDepth 20000 in
theorem ggX6_init_X4_init : GoodIn wsX6_init wsX4_init := goodIn_r _ [41, 42, 2, 3, 24, 43, 44, 45, 46, 83, 84, 85, 86, 87, 88] (by decide +kernel) (by decide +kernel)
set_option maxRecDepth 20000 in
theorem gX6_init_X4_init_n25 : GoodIn wsX6_init (wsX4_init) := ggX6_init_X4_init
set_option maxRecDepth 20000 in
theorem ggX6_init_X3_init : GoodIn wsX6_init wsX3_init := goodIn_r _ [49, 50, 2, 3, 51, 52, 53, 54, 55, 56, 57, 58, 59, 60, 61, 62, 63, 64, 65, 89, 90, 91, 92, 93, 94, 95] (by decide +kernel) (by decide +kernel)
set_option maxRecDepth 20000 in
theorem gX6_init_X3_init : GoodIn wsX6_init (wsX3_init) := ggX6_init_X3_init
