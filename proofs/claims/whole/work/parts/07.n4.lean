theorem dX4_init_0 : decode cX4_init 0 = .ok (.aload_n 0, 1) := by decide +kernel
theorem dX4_init_1 : decode cX4_init 1 = .ok (.invokespecial 3, 3) := by decide +kernel
theorem dX4_init_4 : decode cX4_init 4 = .ok (.aload_n 0, 1) := by decide +kernel
theorem dX4_init_5 : decode cX4_init 5 = .ok (.bipush 10, 2) := by decide +kernel
theorem dX4_init_7 : decode cX4_init 7 = .ok (.newarray .int, 2) := by decide +kernel
theorem dX4_init_9 : decode cX4_init 9 = .ok (.putfield 9, 3) := by decide +kernel
theorem dX4_init_12 : decode cX4_init 12 = .ok (.aload_n 0, 1) := by decide +kernel
theorem dX4_init_13 : decode cX4_init 13 = .ok (.bipush 10, 2) := by decide +kernel
theorem dX4_init_15 : decode cX4_init 15 = .ok (.newarray .int, 2) := by decide +kernel
theorem dX4_init_17 : decode cX4_init 17 = .ok (.putfield 15, 3) := by decide +kernel
theorem dX4_init_20 : decode cX4_init 20 = .ok (.aload_n 0, 1) := by decide +kernel
theorem dX4_init_21 : decode cX4_init 21 = .ok (.bipush 10, 2) := by decide +kernel
theorem dX4_init_23 : decode cX4_init 23 = .ok (.newarray .int, 2) := by decide +kernel
theorem dX4_init_25 : decode cX4_init 25 = .ok (.putfield 18, 3) := by decide +kernel
theorem dX4_init_28 : decode cX4_init 28 = .ok (.aload_n 0, 1) := by decide +kernel
theorem dX4_init_29 : decode cX4_init 29 = .ok (.bipush 60, 2) := by decide +kernel
theorem dX4_init_31 : decode cX4_init 31 = .ok (.newarray .int, 2) := by decide +kernel
theorem dX4_init_33 : decode cX4_init 33 = .ok (.putfield 21, 3) := by decide +kernel
theorem dX4_init_36 : decode cX4_init 36 = .ok (.return_, 1) := by decide +kernel
theorem dX4_append_0 : decode cX4_append 0 = .ok (.aload_n 0, 1) := by decide +kernel
theorem dX4_append_1 : decode cX4_append 1 = .ok (.getfield 21, 3) := by decide +kernel
theorem dX4_append_4 : decode cX4_append 4 = .ok (.aload_n 0, 1) := by decide +kernel
theorem dX4_append_5 : decode cX4_append 5 = .ok (.getfield 24, 3) := by decide +kernel
theorem dX4_append_8 : decode cX4_append 8 = .ok (.iload_n 1, 1) := by decide +kernel
theorem dX4_append_9 : decode cX4_append 9 = .ok (.iastore, 1) := by decide +kernel
theorem dX4_append_10 : decode cX4_append 10 = .ok (.aload_n 0, 1) := by decide +kernel
theorem dX4_append_11 : decode cX4_append 11 = .ok (.dup, 1) := by decide +kernel
theorem dX4_append_12 : decode cX4_append 12 = .ok (.getfield 24, 3) := by decide +kernel
theorem dX4_append_15 : decode cX4_append 15 = .ok (.iconst 1, 1) := by decide +kernel
theorem dX4_append_16 : decode cX4_append 16 = .ok (.iadd, 1) := by decide +kernel
theorem dX4_append_17 : decode cX4_append 17 = .ok (.putfield 24, 3) := by decide +kernel
theorem dX4_append_20 : decode cX4_append 20 = .ok (.aload_n 0, 1) := by decide +kernel
theorem dX4_append_21 : decode cX4_append 21 = .ok (.getfield 24, 3) := by decide +kernel
theorem dX4_append_24 : decode cX4_append 24 = .ok (.ireturn, 1) := by decide +kernel
theorem dX4_clear_0 : decode cX4_clear 0 = .ok (.aload_n 0, 1) := by decide +kernel
theorem dX4_clear_1 : decode cX4_clear 1 = .ok (.getfield 24, 3) := by decide +kernel
theorem dX4_clear_4 : decode cX4_clear 4 = .ok (.istore_n 1, 1) := by decide +kernel
theorem dX4_clear_5 : decode cX4_clear 5 = .ok (.aload_n 0, 1) := by decide +kernel
theorem dX4_clear_6 : decode cX4_clear 6 = .ok (.iconst 0, 1) := by decide +kernel
theorem dX4_clear_7 : decode cX4_clear 7 = .ok (.putfield 24, 3) := by decide +kernel
theorem dX4_clear_10 : decode cX4_clear 10 = .ok (.iload_n 1, 1) := by decide +kernel
theorem dX4_clear_11 : decode cX4_clear 11 = .ok (.ireturn, 1) := by decide +kernel
set_option maxRecDepth 20000 in
theorem ggX4_read_X4_readQuotation : GoodIn wsX4_read wsX4_readQuotation := goodIn_r _ [7, 8, 9, 10, 11, 12, 13, 14, 6, 15, 1, 2, 16, 17, 18, 19, 20, 21, 22, 23, 24, 25, 26, 27, 28, 29, 30, 31, 32, 33] (by decide +kernel) (by decide +kernel)
set_option maxRecDepth 20000 in
theorem gX4_read_X4_readQuotation : GoodIn wsX4_read (wsV RX4 31 RX4 yX4_readQuotation wsX4_readQuotation) := goodIn_app (goodIn_of _ (by decide +kernel)) ggX4_read_X4_readQuotation
theorem dX4_read_0 : decode cX4_read 0 = .ok (.aload_n 0, 1) := by decide +kernel
theorem dX4_read_1 : decode cX4_read 1 = .ok (.iconst 0, 1) := by decide +kernel
theorem dX4_read_2 : decode cX4_read 2 = .ok (.putfield 28, 3) := by decide +kernel
theorem dX4_read_5 : decode cX4_read 5 = .ok (.iconst 0, 1) := by decide +kernel
theorem dX4_read_6 : decode cX4_read 6 = .ok (.istore_n 2, 1) := by decide +kernel
theorem dX4_read_7 : decode cX4_read 7 = .ok (.iload_n 2, 1) := by decide +kernel
theorem dX4_read_8 : decode cX4_read 8 = .ok (.bipush 10, 2) := by decide +kernel
theorem dX4_read_10 : decode cX4_read 10 = .ok (.if_icmp .ge 41, 3) := by decide +kernel
theorem dX4_read_13 : decode cX4_read 13 = .ok (.aload_n 0, 1) := by decide +kernel
theorem dX4_read_14 : decode cX4_read 14 = .ok (.iload_n 2, 1) := by decide +kernel
theorem dX4_read_15 : decode cX4_read 15 = .ok (.iload_n 1, 1) := by decide +kernel
theorem dX4_read_16 : decode cX4_read 16 = .ok (.invokevirtual 31, 3) := by decide +kernel
theorem dX4_read_19 : decode cX4_read 19 = .ok (.ifCond .ne 11, 3) := by decide +kernel
theorem dX4_read_22 : decode cX4_read 22 = .ok (.bipush (-10), 2) := by decide +kernel
theorem dX4_read_24 : decode cX4_read 24 = .ok (.aload_n 0, 1) := by decide +kernel
theorem dX4_read_25 : decode cX4_read 25 = .ok (.getfield 28, 3) := by decide +kernel
theorem dX4_read_28 : decode cX4_read 28 = .ok (.isub, 1) := by decide +kernel
theorem dX4_read_29 : decode cX4_read 29 = .ok (.ireturn, 1) := by decide +kernel
theorem dX4_read_30 : decode cX4_read 30 = .ok (.aload_n 0, 1) := by decide +kernel
theorem dX4_read_31 : decode cX4_read 31 = .ok (.getfield 28, 3) := by decide +kernel
theorem dX4_read_34 : decode cX4_read 34 = .ok (.aload_n 0, 1) := by decide +kernel
theorem dX4_read_35 : decode cX4_read 35 = .ok (.getfield 24, 3) := by decide +kernel
theorem dX4_read_38 : decode cX4_read 38 = .ok (.if_icmp .lt 7, 3) := by decide +kernel
theorem dX4_read_41 : decode cX4_read 41 = .ok (.iload_n 2, 1) := by decide +kernel
theorem dX4_read_42 : decode cX4_read 42 = .ok (.iconst 1, 1) := by decide +kernel
theorem dX4_read_43 : decode cX4_read 43 = .ok (.iadd, 1) := by decide +kernel
theorem dX4_read_44 : decode cX4_read 44 = .ok (.ireturn, 1) := by decide +kernel
theorem dX4_read_45 : decode cX4_read 45 = .ok (.iinc 2 1, 3) := by decide +kernel
theorem dX4_read_48 : decode cX4_read 48 = .ok (.goto (-41), 3) := by decide +kernel
theorem dX4_read_51 : decode cX4_read 51 = .ok (.bipush (-10), 2) := by decide +kernel
theorem dX4_read_53 : decode cX4_read 53 = .ok (.aload_n 0, 1) := by decide +kernel
theorem dX4_read_54 : decode cX4_read 54 = .ok (.getfield 28, 3) := by decide +kernel
theorem dX4_read_57 : decode cX4_read 57 = .ok (.isub, 1) := by decide +kernel
theorem dX4_read_58 : decode cX4_read 58 = .ok (.ireturn, 1) := by decide +kernel
set_option maxRecDepth 20000 in
theorem ggX4_readQuotation_X4_readNumber : GoodIn wsX4_readQuotation wsX4_readNumber := goodIn_r _ [9, 10, 11, 12, 13, 14, 8, 15, 16, 17, 18, 19, 24, 25, 26, 27, 28, 29] (by decide +kernel) (by decide +kernel)
set_option maxRecDepth 20000 in
theorem gX4_readQuotation_X4_readNumber : GoodIn wsX4_readQuotation (wsV RX4 35 RX4 yX4_readNumber wsX4_readNumber) := goodIn_app (goodIn_of _ (by decide +kernel)) ggX4_readQuotation_X4_readNumber
set_option maxRecDepth 20000 in
theorem ggX4_readQuotation_X4_skip : GoodIn wsX4_readQuotation wsX4_skip := goodIn_r _ [23, 10, 11, 12, 24, 25, 26, 27, 28, 29] (by decide +kernel) (by decide +kernel)
set_option maxRecDepth 20000 in
theorem gX4_readQuotation_X4_skip : GoodIn wsX4_readQuotation (wsV RX4 39 RX4 yX4_skip wsX4_skip) := goodIn_app (goodIn_of _ (by decide +kernel)) ggX4_readQuotation_X4_skip
theorem dX4_readQuotation_0 : decode cX4_readQuotation 0 = .ok (.aload_n 0, 1) := by decide +kernel
theorem dX4_readQuotation_1 : decode cX4_readQuotation 1 = .ok (.getfield 9, 3) := by decide +kernel
theorem dX4_readQuotation_4 : decode cX4_readQuotation 4 = .ok (.iload_n 1, 1) := by decide +kernel
theorem dX4_readQuotation_5 : decode cX4_readQuotation 5 = .ok (.aload_n 0, 1) := by decide +kernel
theorem dX4_readQuotation_6 : decode cX4_readQuotation 6 = .ok (.iload_n 2, 1) := by decide +kernel
theorem dX4_readQuotation_7 : decode cX4_readQuotation 7 = .ok (.iconst 1, 1) := by decide +kernel
theorem dX4_readQuotation_8 : decode cX4_readQuotation 8 = .ok (.isub, 1) := by decide +kernel
theorem dX4_readQuotation_9 : decode cX4_readQuotation 9 = .ok (.invokevirtual 35, 3) := by decide +kernel
theorem dX4_readQuotation_12 : decode cX4_readQuotation 12 = .ok (.iastore, 1) := by decide +kernel
theorem dX4_readQuotation_13 : decode cX4_readQuotation 13 = .ok (.aload_n 0, 1) := by decide +kernel
theorem dX4_readQuotation_14 : decode cX4_readQuotation 14 = .ok (.getfield 9, 3) := by decide +kernel
theorem dX4_readQuotation_17 : decode cX4_readQuotation 17 = .ok (.iload_n 1, 1) := by decide +kernel
theorem dX4_readQuotation_18 : decode cX4_readQuotation 18 = .ok (.iaload, 1) := by decide +kernel
theorem dX4_readQuotation_19 : decode cX4_readQuotation 19 = .ok (.iconst (-1), 1) := by decide +kernel
theorem dX4_readQuotation_20 : decode cX4_readQuotation 20 = .ok (.if_icmp .eq 12, 3) := by decide +kernel
theorem dX4_readQuotation_23 : decode cX4_readQuotation 23 = .ok (.aload_n 0, 1) := by decide +kernel
theorem dX4_readQuotation_24 : decode cX4_readQuotation 24 = .ok (.bipush 64, 2) := by decide +kernel
theorem dX4_readQuotation_26 : decode cX4_readQuotation 26 = .ok (.invokevirtual 39, 3) := by decide +kernel
theorem dX4_readQuotation_29 : decode cX4_readQuotation 29 = .ok (.ifCond .ne 5, 3) := by decide +kernel
theorem dX4_readQuotation_32 : decode cX4_readQuotation 32 = .ok (.iconst 0, 1) := by decide +kernel
theorem dX4_readQuotation_33 : decode cX4_readQuotation 33 = .ok (.ireturn, 1) := by decide +kernel
theorem dX4_readQuotation_34 : decode cX4_readQuotation 34 = .ok (.aload_n 0, 1) := by decide +kernel
theorem dX4_readQuotation_35 : decode cX4_readQuotation 35 = .ok (.getfield 15, 3) := by decide +kernel
theorem dX4_readQuotation_38 : decode cX4_readQuotation 38 = .ok (.iload_n 1, 1) := by decide +kernel
theorem dX4_readQuotation_39 : decode cX4_readQuotation 39 = .ok (.aload_n 0, 1) := by decide +kernel
theorem dX4_readQuotation_40 : decode cX4_readQuotation 40 = .ok (.bipush 23, 2) := by decide +kernel
theorem dX4_readQuotation_42 : decode cX4_readQuotation 42 = .ok (.invokevirtual 35, 3) := by decide +kernel
theorem dX4_readQuotation_45 : decode cX4_readQuotation 45 = .ok (.iastore, 1) := by decide +kernel
theorem dX4_readQuotation_46 : decode cX4_readQuotation 46 = .ok (.aload_n 0, 1) := by decide +kernel
theorem dX4_readQuotation_47 : decode cX4_readQuotation 47 = .ok (.getfield 15, 3) := by decide +kernel
theorem dX4_readQuotation_50 : decode cX4_readQuotation 50 = .ok (.iload_n 1, 1) := by decide +kernel
theorem dX4_readQuotation_51 : decode cX4_readQuotation 51 = .ok (.iaload, 1) := by decide +kernel
theorem dX4_readQuotation_52 : decode cX4_readQuotation 52 = .ok (.iconst (-1), 1) := by decide +kernel
theorem dX4_readQuotation_53 : decode cX4_readQuotation 53 = .ok (.if_icmp .eq 12, 3) := by decide +kernel
theorem dX4_readQuotation_56 : decode cX4_readQuotation 56 = .ok (.aload_n 0, 1) := by decide +kernel
theorem dX4_readQuotation_57 : decode cX4_readQuotation 57 = .ok (.bipush 61, 2) := by decide +kernel
theorem dX4_readQuotation_59 : decode cX4_readQuotation 59 = .ok (.invokevirtual 39, 3) := by decide +kernel
theorem dX4_readQuotation_62 : decode cX4_readQuotation 62 = .ok (.ifCond .ne 5, 3) := by decide +kernel
theorem dX4_readQuotation_65 : decode cX4_readQuotation 65 = .ok (.iconst 0, 1) := by decide +kernel
theorem dX4_readQuotation_66 : decode cX4_readQuotation 66 = .ok (.ireturn, 1) := by decide +kernel
theorem dX4_readQuotation_67 : decode cX4_readQuotation 67 = .ok (.aload_n 0, 1) := by decide +kernel
theorem dX4_readQuotation_68 : decode cX4_readQuotation 68 = .ok (.getfield 18, 3) := by decide +kernel
theorem dX4_readQuotation_71 : decode cX4_readQuotation 71 = .ok (.iload_n 1, 1) := by decide +kernel
theorem dX4_readQuotation_72 : decode cX4_readQuotation 72 = .ok (.aload_n 0, 1) := by decide +kernel
theorem dX4_readQuotation_73 : decode cX4_readQuotation 73 = .ok (.ldc 43, 2) := by decide +kernel
theorem dX4_readQuotation_75 : decode cX4_readQuotation 75 = .ok (.invokevirtual 35, 3) := by decide +kernel
theorem dX4_readQuotation_78 : decode cX4_readQuotation 78 = .ok (.iastore, 1) := by decide +kernel
theorem dX4_readQuotation_79 : decode cX4_readQuotation 79 = .ok (.aload_n 0, 1) := by decide +kernel
theorem dX4_readQuotation_80 : decode cX4_readQuotation 80 = .ok (.getfield 18, 3) := by decide +kernel
theorem dX4_readQuotation_83 : decode cX4_readQuotation 83 = .ok (.iload_n 1, 1) := by decide +kernel
theorem dX4_readQuotation_84 : decode cX4_readQuotation 84 = .ok (.iaload, 1) := by decide +kernel
theorem dX4_readQuotation_85 : decode cX4_readQuotation 85 = .ok (.iconst (-1), 1) := by decide +kernel
theorem dX4_readQuotation_86 : decode cX4_readQuotation 86 = .ok (.if_icmp .eq 16, 3) := by decide +kernel
theorem dX4_readQuotation_89 : decode cX4_readQuotation 89 = .ok (.aload_n 0, 1) := by decide +kernel
theorem dX4_readQuotation_90 : decode cX4_readQuotation 90 = .ok (.bipush 59, 2) := by decide +kernel
theorem dX4_readQuotation_92 : decode cX4_readQuotation 92 = .ok (.invokevirtual 39, 3) := by decide +kernel
theorem dX4_readQuotation_95 : decode cX4_readQuotation 95 = .ok (.ifCond .eq 7, 3) := by decide +kernel
theorem dX4_readQuotation_98 : decode cX4_readQuotation 98 = .ok (.iconst 1, 1) := by decide +kernel
theorem dX4_readQuotation_99 : decode cX4_readQuotation 99 = .ok (.goto 4, 3) := by decide +kernel
theorem dX4_readQuotation_102 : decode cX4_readQuotation 102 = .ok (.iconst 0, 1) := by decide +kernel
theorem dX4_readQuotation_103 : decode cX4_readQuotation 103 = .ok (.ireturn, 1) := by decide +kernel
set_option maxRecDepth 20000 in
theorem ggX4_readNumber_X4_isDigit : GoodIn wsX4_readNumber wsX4_isDigit := goodIn_r _ [7] (by decide +kernel) (by decide +kernel)
set_option maxRecDepth 20000 in
theorem gX4_readNumber_X4_isDigit : GoodIn wsX4_readNumber (va_wsS RX4 44 yX4_isDigit wsX4_isDigit) := goodIn_app (goodIn_of _ (by decide +kernel)) ggX4_readNumber_X4_isDigit
set_option maxRecDepth 20000 in
theorem ggX4_readNumber_X4_hasNumberForm : GoodIn wsX4_readNumber wsX4_hasNumberForm := goodIn_r _ [11, 3, 12, 13, 14, 15, 16, 17] (by decide +kernel) (by decide +kernel)
set_option maxRecDepth 20000 in
theorem gX4_readNumber_X4_hasNumberForm : GoodIn wsX4_readNumber (wsV RX4 48 RX4 yX4_hasNumberForm wsX4_hasNumberForm) := goodIn_app (goodIn_of _ (by decide +kernel)) ggX4_readNumber_X4_hasNumberForm
theorem dX4_readNumber_0 : decode cX4_readNumber 0 = .ok (.aload_n 0, 1) := by decide +kernel
theorem dX4_readNumber_1 : decode cX4_readNumber 1 = .ok (.getfield 28, 3) := by decide +kernel
theorem dX4_readNumber_4 : decode cX4_readNumber 4 = .ok (.istore_n 2, 1) := by decide +kernel
theorem dX4_readNumber_5 : decode cX4_readNumber 5 = .ok (.iconst 0, 1) := by decide +kernel
theorem dX4_readNumber_6 : decode cX4_readNumber 6 = .ok (.istore_n 3, 1) := by decide +kernel
theorem dX4_readNumber_7 : decode cX4_readNumber 7 = .ok (.aload_n 0, 1) := by decide +kernel
theorem dX4_readNumber_8 : decode cX4_readNumber 8 = .ok (.getfield 28, 3) := by decide +kernel
theorem dX4_readNumber_11 : decode cX4_readNumber 11 = .ok (.aload_n 0, 1) := by decide +kernel
theorem dX4_readNumber_12 : decode cX4_readNumber 12 = .ok (.getfield 24, 3) := by decide +kernel
theorem dX4_readNumber_15 : decode cX4_readNumber 15 = .ok (.if_icmp .ge 59, 3) := by decide +kernel
theorem dX4_readNumber_18 : decode cX4_readNumber 18 = .ok (.aload_n 0, 1) := by decide +kernel
theorem dX4_readNumber_19 : decode cX4_readNumber 19 = .ok (.getfield 21, 3) := by decide +kernel
theorem dX4_readNumber_22 : decode cX4_readNumber 22 = .ok (.aload_n 0, 1) := by decide +kernel
theorem dX4_readNumber_23 : decode cX4_readNumber 23 = .ok (.getfield 28, 3) := by decide +kernel
theorem dX4_readNumber_26 : decode cX4_readNumber 26 = .ok (.iaload, 1) := by decide +kernel
theorem dX4_readNumber_27 : decode cX4_readNumber 27 = .ok (.invokestatic 44, 3) := by decide +kernel
theorem dX4_readNumber_30 : decode cX4_readNumber 30 = .ok (.ifCond .eq 44, 3) := by decide +kernel
theorem dX4_readNumber_33 : decode cX4_readNumber 33 = .ok (.aload_n 0, 1) := by decide +kernel
theorem dX4_readNumber_34 : decode cX4_readNumber 34 = .ok (.getfield 28, 3) := by decide +kernel
theorem dX4_readNumber_37 : decode cX4_readNumber 37 = .ok (.iload_n 2, 1) := by decide +kernel
theorem dX4_readNumber_38 : decode cX4_readNumber 38 = .ok (.isub, 1) := by decide +kernel
theorem dX4_readNumber_39 : decode cX4_readNumber 39 = .ok (.iconst 5, 1) := by decide +kernel
theorem dX4_readNumber_40 : decode cX4_readNumber 40 = .ok (.if_icmp .ge 21, 3) := by decide +kernel
theorem dX4_readNumber_43 : decode cX4_readNumber 43 = .ok (.iload_n 3, 1) := by decide +kernel
theorem dX4_readNumber_44 : decode cX4_readNumber 44 = .ok (.bipush 10, 2) := by decide +kernel
theorem dX4_readNumber_46 : decode cX4_readNumber 46 = .ok (.imul, 1) := by decide +kernel
theorem dX4_readNumber_47 : decode cX4_readNumber 47 = .ok (.aload_n 0, 1) := by decide +kernel
theorem dX4_readNumber_48 : decode cX4_readNumber 48 = .ok (.getfield 21, 3) := by decide +kernel
theorem dX4_readNumber_51 : decode cX4_readNumber 51 = .ok (.aload_n 0, 1) := by decide +kernel
theorem dX4_readNumber_52 : decode cX4_readNumber 52 = .ok (.getfield 28, 3) := by decide +kernel
theorem dX4_readNumber_55 : decode cX4_readNumber 55 = .ok (.iaload, 1) := by decide +kernel
theorem dX4_readNumber_56 : decode cX4_readNumber 56 = .ok (.bipush 48, 2) := by decide +kernel
theorem dX4_readNumber_58 : decode cX4_readNumber 58 = .ok (.isub, 1) := by decide +kernel
theorem dX4_readNumber_59 : decode cX4_readNumber 59 = .ok (.iadd, 1) := by decide +kernel
theorem dX4_readNumber_60 : decode cX4_readNumber 60 = .ok (.istore_n 3, 1) := by decide +kernel
theorem dX4_readNumber_61 : decode cX4_readNumber 61 = .ok (.aload_n 0, 1) := by decide +kernel
theorem dX4_readNumber_62 : decode cX4_readNumber 62 = .ok (.dup, 1) := by decide +kernel
theorem dX4_readNumber_63 : decode cX4_readNumber 63 = .ok (.getfield 28, 3) := by decide +kernel
theorem dX4_readNumber_66 : decode cX4_readNumber 66 = .ok (.iconst 1, 1) := by decide +kernel
theorem dX4_readNumber_67 : decode cX4_readNumber 67 = .ok (.iadd, 1) := by decide +kernel
theorem dX4_readNumber_68 : decode cX4_readNumber 68 = .ok (.putfield 28, 3) := by decide +kernel
theorem dX4_readNumber_71 : decode cX4_readNumber 71 = .ok (.goto (-64), 3) := by decide +kernel
theorem dX4_readNumber_74 : decode cX4_readNumber 74 = .ok (.aload_n 0, 1) := by decide +kernel
theorem dX4_readNumber_75 : decode cX4_readNumber 75 = .ok (.getfield 28, 3) := by decide +kernel
theorem dX4_readNumber_78 : decode cX4_readNumber 78 = .ok (.iload_n 2, 1) := by decide +kernel
theorem dX4_readNumber_79 : decode cX4_readNumber 79 = .ok (.isub, 1) := by decide +kernel
theorem dX4_readNumber_80 : decode cX4_readNumber 80 = .ok (.istore 4, 2) := by decide +kernel
theorem dX4_readNumber_82 : decode cX4_readNumber 82 = .ok (.aload_n 0, 1) := by decide +kernel
theorem dX4_readNumber_83 : decode cX4_readNumber 83 = .ok (.iload_n 2, 1) := by decide +kernel
theorem dX4_readNumber_84 : decode cX4_readNumber 84 = .ok (.iload 4, 2) := by decide +kernel
theorem dX4_readNumber_86 : decode cX4_readNumber 86 = .ok (.invokevirtual 48, 3) := by decide +kernel
theorem dX4_readNumber_89 : decode cX4_readNumber 89 = .ok (.ifCond .eq 10, 3) := by decide +kernel
theorem dX4_readNumber_92 : decode cX4_readNumber 92 = .ok (.iload_n 3, 1) := by decide +kernel
theorem dX4_readNumber_93 : decode cX4_readNumber 93 = .ok (.iload_n 1, 1) := by decide +kernel
theorem dX4_readNumber_94 : decode cX4_readNumber 94 = .ok (.if_icmp .gt 5, 3) := by decide +kernel
theorem dX4_readNumber_97 : decode cX4_readNumber 97 = .ok (.iload_n 3, 1) := by decide +kernel
theorem dX4_readNumber_98 : decode cX4_readNumber 98 = .ok (.ireturn, 1) := by decide +kernel
theorem dX4_readNumber_99 : decode cX4_readNumber 99 = .ok (.aload_n 0, 1) := by decide +kernel
theorem dX4_readNumber_100 : decode cX4_readNumber 100 = .ok (.iload_n 2, 1) := by decide +kernel
theorem dX4_readNumber_101 : decode cX4_readNumber 101 = .ok (.putfield 28, 3) := by decide +kernel
theorem dX4_readNumber_104 : decode cX4_readNumber 104 = .ok (.iconst (-1), 1) := by decide +kernel
theorem dX4_readNumber_105 : decode cX4_readNumber 105 = .ok (.ireturn, 1) := by decide +kernel
theorem dX4_hasNumberForm_0 : decode cX4_hasNumberForm 0 = .ok (.iload_n 2, 1) := by decide +kernel
theorem dX4_hasNumberForm_1 : decode cX4_hasNumberForm 1 = .ok (.iconst 1, 1) := by decide +kernel
theorem dX4_hasNumberForm_2 : decode cX4_hasNumberForm 2 = .ok (.if_icmp .ne 5, 3) := by decide +kernel
theorem dX4_hasNumberForm_5 : decode cX4_hasNumberForm 5 = .ok (.iconst 1, 1) := by decide +kernel
theorem dX4_hasNumberForm_6 : decode cX4_hasNumberForm 6 = .ok (.ireturn, 1) := by decide +kernel
theorem dX4_hasNumberForm_7 : decode cX4_hasNumberForm 7 = .ok (.iload_n 2, 1) := by decide +kernel
theorem dX4_hasNumberForm_8 : decode cX4_hasNumberForm 8 = .ok (.iconst 1, 1) := by decide +kernel
theorem dX4_hasNumberForm_9 : decode cX4_hasNumberForm 9 = .ok (.if_icmp .le 23, 3) := by decide +kernel
theorem dX4_hasNumberForm_12 : decode cX4_hasNumberForm 12 = .ok (.iload_n 2, 1) := by decide +kernel
theorem dX4_hasNumberForm_13 : decode cX4_hasNumberForm 13 = .ok (.iconst 5, 1) := by decide +kernel
theorem dX4_hasNumberForm_14 : decode cX4_hasNumberForm 14 = .ok (.if_icmp .gt 18, 3) := by decide +kernel
theorem dX4_hasNumberForm_17 : decode cX4_hasNumberForm 17 = .ok (.aload_n 0, 1) := by decide +kernel
theorem dX4_hasNumberForm_18 : decode cX4_hasNumberForm 18 = .ok (.getfield 21, 3) := by decide +kernel
theorem dX4_hasNumberForm_21 : decode cX4_hasNumberForm 21 = .ok (.iload_n 1, 1) := by decide +kernel
theorem dX4_hasNumberForm_22 : decode cX4_hasNumberForm 22 = .ok (.iaload, 1) := by decide +kernel
theorem dX4_hasNumberForm_23 : decode cX4_hasNumberForm 23 = .ok (.bipush 48, 2) := by decide +kernel
theorem dX4_hasNumberForm_25 : decode cX4_hasNumberForm 25 = .ok (.if_icmp .eq 7, 3) := by decide +kernel
theorem dX4_hasNumberForm_28 : decode cX4_hasNumberForm 28 = .ok (.iconst 1, 1) := by decide +kernel
theorem dX4_hasNumberForm_29 : decode cX4_hasNumberForm 29 = .ok (.goto 4, 3) := by decide +kernel
theorem dX4_hasNumberForm_32 : decode cX4_hasNumberForm 32 = .ok (.iconst 0, 1) := by decide +kernel
theorem dX4_hasNumberForm_33 : decode cX4_hasNumberForm 33 = .ok (.ireturn, 1) := by decide +kernel
theorem dX4_skip_0 : decode cX4_skip 0 = .ok (.aload_n 0, 1) := by decide +kernel
theorem dX4_skip_1 : decode cX4_skip 1 = .ok (.getfield 28, 3) := by decide +kernel
theorem dX4_skip_4 : decode cX4_skip 4 = .ok (.aload_n 0, 1) := by decide +kernel
theorem dX4_skip_5 : decode cX4_skip 5 = .ok (.getfield 24, 3) := by decide +kernel
theorem dX4_skip_8 : decode cX4_skip 8 = .ok (.if_icmp .ge 16, 3) := by decide +kernel
theorem dX4_skip_11 : decode cX4_skip 11 = .ok (.aload_n 0, 1) := by decide +kernel
theorem dX4_skip_12 : decode cX4_skip 12 = .ok (.getfield 21, 3) := by decide +kernel
theorem dX4_skip_15 : decode cX4_skip 15 = .ok (.aload_n 0, 1) := by decide +kernel
theorem dX4_skip_16 : decode cX4_skip 16 = .ok (.getfield 28, 3) := by decide +kernel
theorem dX4_skip_19 : decode cX4_skip 19 = .ok (.iaload, 1) := by decide +kernel
theorem dX4_skip_20 : decode cX4_skip 20 = .ok (.iload_n 1, 1) := by decide +kernel
theorem dX4_skip_21 : decode cX4_skip 21 = .ok (.if_icmp .eq 5, 3) := by decide +kernel
theorem dX4_skip_24 : decode cX4_skip 24 = .ok (.iconst 0, 1) := by decide +kernel
theorem dX4_skip_25 : decode cX4_skip 25 = .ok (.ireturn, 1) := by decide +kernel
theorem dX4_skip_26 : decode cX4_skip 26 = .ok (.aload_n 0, 1) := by decide +kernel
theorem dX4_skip_27 : decode cX4_skip 27 = .ok (.dup, 1) := by decide +kernel
theorem dX4_skip_28 : decode cX4_skip 28 = .ok (.getfield 28, 3) := by decide +kernel
theorem dX4_skip_31 : decode cX4_skip 31 = .ok (.iconst 1, 1) := by decide +kernel
theorem dX4_skip_32 : decode cX4_skip 32 = .ok (.iadd, 1) := by decide +kernel
theorem dX4_skip_33 : decode cX4_skip 33 = .ok (.putfield 28, 3) := by decide +kernel
theorem dX4_skip_36 : decode cX4_skip 36 = .ok (.iconst 1, 1) := by decide +kernel
theorem dX4_skip_37 : decode cX4_skip 37 = .ok (.ireturn, 1) := by decide +kernel
theorem dX4_isDigit_0 : decode cX4_isDigit 0 = .ok (.iload_n 0, 1) := by decide +kernel
theorem dX4_isDigit_1 : decode cX4_isDigit 1 = .ok (.bipush 48, 2) := by decide +kernel
theorem dX4_isDigit_3 : decode cX4_isDigit 3 = .ok (.if_icmp .lt 13, 3) := by decide +kernel
theorem dX4_isDigit_6 : decode cX4_isDigit 6 = .ok (.iload_n 0, 1) := by decide +kernel
theorem dX4_isDigit_7 : decode cX4_isDigit 7 = .ok (.bipush 57, 2) := by decide +kernel
theorem dX4_isDigit_9 : decode cX4_isDigit 9 = .ok (.if_icmp .gt 7, 3) := by decide +kernel
theorem dX4_isDigit_12 : decode cX4_isDigit 12 = .ok (.iconst 1, 1) := by decide +kernel
theorem dX4_isDigit_13 : decode cX4_isDigit 13 = .ok (.goto 4, 3) := by decide +kernel
theorem dX4_isDigit_16 : decode cX4_isDigit 16 = .ok (.iconst 0, 1) := by decide +kernel
theorem dX4_isDigit_17 : decode cX4_isDigit 17 = .ok (.ireturn, 1) := by decide +kernel
