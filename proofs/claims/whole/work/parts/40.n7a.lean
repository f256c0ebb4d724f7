theorem dX7_init_0 : decode cX7_init 0 = .ok (.aload_n 0, 1) := by decide +kernel
theorem dX7_init_1 : decode cX7_init 1 = .ok (.invokespecial 1, 3) := by decide +kernel
theorem dX7_init_4 : decode cX7_init 4 = .ok (.aload_n 0, 1) := by decide +kernel
theorem dX7_init_5 : decode cX7_init 5 = .ok (.sipush 354, 3) := by decide +kernel
theorem dX7_init_8 : decode cX7_init 8 = .ok (.newarray .int, 2) := by decide +kernel
theorem dX7_init_10 : decode cX7_init 10 = .ok (.putfield 7, 3) := by decide +kernel
theorem dX7_init_13 : decode cX7_init 13 = .ok (.aload_n 0, 1) := by decide +kernel
theorem dX7_init_14 : decode cX7_init 14 = .ok (.sipush 2832, 3) := by decide +kernel
theorem dX7_init_17 : decode cX7_init 17 = .ok (.newarray .int, 2) := by decide +kernel
theorem dX7_init_19 : decode cX7_init 19 = .ok (.putfield 13, 3) := by decide +kernel
theorem dX7_init_22 : decode cX7_init 22 = .ok (.aload_n 0, 1) := by decide +kernel
theorem dX7_init_23 : decode cX7_init 23 = .ok (.bipush 60, 2) := by decide +kernel
theorem dX7_init_25 : decode cX7_init 25 = .ok (.newarray .byte, 2) := by decide +kernel
theorem dX7_init_27 : decode cX7_init 27 = .ok (.putfield 16, 3) := by decide +kernel
theorem dX7_init_30 : decode cX7_init 30 = .ok (.aload_n 0, 1) := by decide +kernel
theorem dX7_init_31 : decode cX7_init 31 = .ok (.bipush 36, 2) := by decide +kernel
theorem dX7_init_33 : decode cX7_init 33 = .ok (.newarray .int, 2) := by decide +kernel
theorem dX7_init_35 : decode cX7_init 35 = .ok (.putfield 20, 3) := by decide +kernel
theorem dX7_init_38 : decode cX7_init 38 = .ok (.aload_n 0, 1) := by decide +kernel
theorem dX7_init_39 : decode cX7_init 39 = .ok (.sipush 288, 3) := by decide +kernel
theorem dX7_init_42 : decode cX7_init 42 = .ok (.newarray .float, 2) := by decide +kernel
theorem dX7_init_44 : decode cX7_init 44 = .ok (.putfield 23, 3) := by decide +kernel
theorem dX7_init_47 : decode cX7_init 47 = .ok (.aload_n 0, 1) := by decide +kernel
theorem dX7_init_48 : decode cX7_init 48 = .ok (.sipush 288, 3) := by decide +kernel
theorem dX7_init_51 : decode cX7_init 51 = .ok (.newarray .boolean, 2) := by decide +kernel
theorem dX7_init_53 : decode cX7_init 53 = .ok (.putfield 27, 3) := by decide +kernel
theorem dX7_init_56 : decode cX7_init 56 = .ok (.aload_n 0, 1) := by decide +kernel
theorem dX7_init_57 : decode cX7_init 57 = .ok (.sipush 288, 3) := by decide +kernel
theorem dX7_init_60 : decode cX7_init 60 = .ok (.newarray .boolean, 2) := by decide +kernel
theorem dX7_init_62 : decode cX7_init 62 = .ok (.putfield 31, 3) := by decide +kernel
theorem dX7_init_65 : decode cX7_init 65 = .ok (.iconst 0, 1) := by decide +kernel
theorem dX7_init_66 : decode cX7_init 66 = .ok (.istore_n 1, 1) := by decide +kernel
theorem dX7_init_67 : decode cX7_init 67 = .ok (.iload_n 1, 1) := by decide +kernel
theorem dX7_init_68 : decode cX7_init 68 = .ok (.iconst 4, 1) := by decide +kernel
theorem dX7_init_69 : decode cX7_init 69 = .ok (.if_icmp .ge 19, 3) := by decide +kernel
theorem dX7_init_72 : decode cX7_init 72 = .ok (.aload_n 0, 1) := by decide +kernel
theorem dX7_init_73 : decode cX7_init 73 = .ok (.getfield 7, 3) := by decide +kernel
theorem dX7_init_76 : decode cX7_init 76 = .ok (.iconst 0, 1) := by decide +kernel
theorem dX7_init_77 : decode cX7_init 77 = .ok (.iload_n 1, 1) := by decide +kernel
theorem dX7_init_78 : decode cX7_init 78 = .ok (.iadd, 1) := by decide +kernel
theorem dX7_init_79 : decode cX7_init 79 = .ok (.bipush 25, 2) := by decide +kernel
theorem dX7_init_81 : decode cX7_init 81 = .ok (.iastore, 1) := by decide +kernel
theorem dX7_init_82 : decode cX7_init 82 = .ok (.iinc 1 1, 3) := by decide +kernel
theorem dX7_init_85 : decode cX7_init 85 = .ok (.goto (-18), 3) := by decide +kernel
theorem dX7_init_88 : decode cX7_init 88 = .ok (.iconst 0, 1) := by decide +kernel
theorem dX7_init_89 : decode cX7_init 89 = .ok (.istore_n 1, 1) := by decide +kernel
theorem dX7_init_90 : decode cX7_init 90 = .ok (.iload_n 1, 1) := by decide +kernel
theorem dX7_init_91 : decode cX7_init 91 = .ok (.bipush 12, 2) := by decide +kernel
theorem dX7_init_93 : decode cX7_init 93 = .ok (.if_icmp .ge 20, 3) := by decide +kernel
theorem dX7_init_96 : decode cX7_init 96 = .ok (.aload_n 0, 1) := by decide +kernel
theorem dX7_init_97 : decode cX7_init 97 = .ok (.getfield 7, 3) := by decide +kernel
theorem dX7_init_100 : decode cX7_init 100 = .ok (.bipush 42, 2) := by decide +kernel
theorem dX7_init_102 : decode cX7_init 102 = .ok (.iload_n 1, 1) := by decide +kernel
theorem dX7_init_103 : decode cX7_init 103 = .ok (.iadd, 1) := by decide +kernel
theorem dX7_init_104 : decode cX7_init 104 = .ok (.bipush (-9), 2) := by decide +kernel
theorem dX7_init_106 : decode cX7_init 106 = .ok (.iastore, 1) := by decide +kernel
theorem dX7_init_107 : decode cX7_init 107 = .ok (.iinc 1 1, 3) := by decide +kernel
theorem dX7_init_110 : decode cX7_init 110 = .ok (.goto (-20), 3) := by decide +kernel
theorem dX7_init_113 : decode cX7_init 113 = .ok (.return_, 1) := by decide +kernel
theorem dX7_in_0 : decode cX7_in 0 = .ok (.iload_n 0, 1) := by decide +kernel
theorem dX7_in_1 : decode cX7_in 1 = .ok (.iload_n 1, 1) := by decide +kernel
theorem dX7_in_2 : decode cX7_in 2 = .ok (.if_icmp .lt 12, 3) := by decide +kernel
theorem dX7_in_5 : decode cX7_in 5 = .ok (.iload_n 0, 1) := by decide +kernel
theorem dX7_in_6 : decode cX7_in 6 = .ok (.iload_n 2, 1) := by decide +kernel
theorem dX7_in_7 : decode cX7_in 7 = .ok (.if_icmp .gt 7, 3) := by decide +kernel
theorem dX7_in_10 : decode cX7_in 10 = .ok (.iconst 1, 1) := by decide +kernel
theorem dX7_in_11 : decode cX7_in 11 = .ok (.goto 4, 3) := by decide +kernel
theorem dX7_in_14 : decode cX7_in 14 = .ok (.iconst 0, 1) := by decide +kernel
theorem dX7_in_15 : decode cX7_in 15 = .ok (.ireturn, 1) := by decide +kernel
theorem dX7_edit_0 : decode cX7_edit 0 = .ok (.aload_n 0, 1) := by decide +kernel
theorem dX7_edit_1 : decode cX7_edit 1 = .ok (.getfield 34, 3) := by decide +kernel
theorem dX7_edit_4 : decode cX7_edit 4 = .ok (.bipush 8, 2) := by decide +kernel
theorem dX7_edit_6 : decode cX7_edit 6 = .ok (.if_icmp .ne 44, 3) := by decide +kernel
theorem dX7_edit_9 : decode cX7_edit 9 = .ok (.iconst 0, 1) := by decide +kernel
theorem dX7_edit_10 : decode cX7_edit 10 = .ok (.istore_n 1, 1) := by decide +kernel
theorem dX7_edit_11 : decode cX7_edit 11 = .ok (.iload_n 1, 1) := by decide +kernel
theorem dX7_edit_12 : decode cX7_edit 12 = .ok (.sipush 2478, 3) := by decide +kernel
theorem dX7_edit_15 : decode cX7_edit 15 = .ok (.if_icmp .ge 25, 3) := by decide +kernel
theorem dX7_edit_18 : decode cX7_edit 18 = .ok (.aload_n 0, 1) := by decide +kernel
theorem dX7_edit_19 : decode cX7_edit 19 = .ok (.getfield 13, 3) := by decide +kernel
theorem dX7_edit_22 : decode cX7_edit 22 = .ok (.iload_n 1, 1) := by decide +kernel
theorem dX7_edit_23 : decode cX7_edit 23 = .ok (.aload_n 0, 1) := by decide +kernel
theorem dX7_edit_24 : decode cX7_edit 24 = .ok (.getfield 13, 3) := by decide +kernel
theorem dX7_edit_27 : decode cX7_edit 27 = .ok (.iload_n 1, 1) := by decide +kernel
theorem dX7_edit_28 : decode cX7_edit 28 = .ok (.sipush 354, 3) := by decide +kernel
theorem dX7_edit_31 : decode cX7_edit 31 = .ok (.iadd, 1) := by decide +kernel
theorem dX7_edit_32 : decode cX7_edit 32 = .ok (.iaload, 1) := by decide +kernel
theorem dX7_edit_33 : decode cX7_edit 33 = .ok (.iastore, 1) := by decide +kernel
theorem dX7_edit_34 : decode cX7_edit 34 = .ok (.iinc 1 1, 3) := by decide +kernel
theorem dX7_edit_37 : decode cX7_edit 37 = .ok (.goto (-26), 3) := by decide +kernel
theorem dX7_edit_40 : decode cX7_edit 40 = .ok (.aload_n 0, 1) := by decide +kernel
theorem dX7_edit_41 : decode cX7_edit 41 = .ok (.dup, 1) := by decide +kernel
theorem dX7_edit_42 : decode cX7_edit 42 = .ok (.getfield 34, 3) := by decide +kernel
theorem dX7_edit_45 : decode cX7_edit 45 = .ok (.iconst 1, 1) := by decide +kernel
theorem dX7_edit_46 : decode cX7_edit 46 = .ok (.isub, 1) := by decide +kernel
theorem dX7_edit_47 : decode cX7_edit 47 = .ok (.putfield 34, 3) := by decide +kernel
theorem dX7_edit_50 : decode cX7_edit 50 = .ok (.iconst 0, 1) := by decide +kernel
theorem dX7_edit_51 : decode cX7_edit 51 = .ok (.istore_n 1, 1) := by decide +kernel
theorem dX7_edit_52 : decode cX7_edit 52 = .ok (.iload_n 1, 1) := by decide +kernel
theorem dX7_edit_53 : decode cX7_edit 53 = .ok (.sipush 354, 3) := by decide +kernel
theorem dX7_edit_56 : decode cX7_edit 56 = .ok (.if_icmp .ge 30, 3) := by decide +kernel
theorem dX7_edit_59 : decode cX7_edit 59 = .ok (.aload_n 0, 1) := by decide +kernel
theorem dX7_edit_60 : decode cX7_edit 60 = .ok (.getfield 13, 3) := by decide +kernel
theorem dX7_edit_63 : decode cX7_edit 63 = .ok (.sipush 354, 3) := by decide +kernel
theorem dX7_edit_66 : decode cX7_edit 66 = .ok (.aload_n 0, 1) := by decide +kernel
theorem dX7_edit_67 : decode cX7_edit 67 = .ok (.getfield 34, 3) := by decide +kernel
theorem dX7_edit_70 : decode cX7_edit 70 = .ok (.imul, 1) := by decide +kernel
theorem dX7_edit_71 : decode cX7_edit 71 = .ok (.iload_n 1, 1) := by decide +kernel
theorem dX7_edit_72 : decode cX7_edit 72 = .ok (.iadd, 1) := by decide +kernel
theorem dX7_edit_73 : decode cX7_edit 73 = .ok (.aload_n 0, 1) := by decide +kernel
theorem dX7_edit_74 : decode cX7_edit 74 = .ok (.getfield 7, 3) := by decide +kernel
theorem dX7_edit_77 : decode cX7_edit 77 = .ok (.iload_n 1, 1) := by decide +kernel
theorem dX7_edit_78 : decode cX7_edit 78 = .ok (.iaload, 1) := by decide +kernel
theorem dX7_edit_79 : decode cX7_edit 79 = .ok (.iastore, 1) := by decide +kernel
theorem dX7_edit_80 : decode cX7_edit 80 = .ok (.iinc 1 1, 3) := by decide +kernel
theorem dX7_edit_83 : decode cX7_edit 83 = .ok (.goto (-31), 3) := by decide +kernel
theorem dX7_edit_86 : decode cX7_edit 86 = .ok (.aload_n 0, 1) := by decide +kernel
theorem dX7_edit_87 : decode cX7_edit 87 = .ok (.dup, 1) := by decide +kernel
theorem dX7_edit_88 : decode cX7_edit 88 = .ok (.getfield 34, 3) := by decide +kernel
theorem dX7_edit_91 : decode cX7_edit 91 = .ok (.iconst 1, 1) := by decide +kernel
theorem dX7_edit_92 : decode cX7_edit 92 = .ok (.iadd, 1) := by decide +kernel
theorem dX7_edit_93 : decode cX7_edit 93 = .ok (.putfield 34, 3) := by decide +kernel
theorem dX7_edit_96 : decode cX7_edit 96 = .ok (.return_, 1) := by decide +kernel
theorem dX7_undo_0 : decode cX7_undo 0 = .ok (.aload_n 0, 1) := by decide +kernel
theorem dX7_undo_1 : decode cX7_undo 1 = .ok (.getfield 34, 3) := by decide +kernel
theorem dX7_undo_4 : decode cX7_undo 4 = .ok (.ifCond .ne 6, 3) := by decide +kernel
theorem dX7_undo_7 : decode cX7_undo 7 = .ok (.bipush (-2), 2) := by decide +kernel
theorem dX7_undo_9 : decode cX7_undo 9 = .ok (.ireturn, 1) := by decide +kernel
theorem dX7_undo_10 : decode cX7_undo 10 = .ok (.aload_n 0, 1) := by decide +kernel
theorem dX7_undo_11 : decode cX7_undo 11 = .ok (.dup, 1) := by decide +kernel
theorem dX7_undo_12 : decode cX7_undo 12 = .ok (.getfield 34, 3) := by decide +kernel
theorem dX7_undo_15 : decode cX7_undo 15 = .ok (.iconst 1, 1) := by decide +kernel
theorem dX7_undo_16 : decode cX7_undo 16 = .ok (.isub, 1) := by decide +kernel
theorem dX7_undo_17 : decode cX7_undo 17 = .ok (.putfield 34, 3) := by decide +kernel
theorem dX7_undo_20 : decode cX7_undo 20 = .ok (.iconst 0, 1) := by decide +kernel
theorem dX7_undo_21 : decode cX7_undo 21 = .ok (.istore_n 1, 1) := by decide +kernel
theorem dX7_undo_22 : decode cX7_undo 22 = .ok (.iload_n 1, 1) := by decide +kernel
theorem dX7_undo_23 : decode cX7_undo 23 = .ok (.sipush 354, 3) := by decide +kernel
theorem dX7_undo_26 : decode cX7_undo 26 = .ok (.if_icmp .ge 30, 3) := by decide +kernel
theorem dX7_undo_29 : decode cX7_undo 29 = .ok (.aload_n 0, 1) := by decide +kernel
theorem dX7_undo_30 : decode cX7_undo 30 = .ok (.getfield 7, 3) := by decide +kernel
theorem dX7_undo_33 : decode cX7_undo 33 = .ok (.iload_n 1, 1) := by decide +kernel
theorem dX7_undo_34 : decode cX7_undo 34 = .ok (.aload_n 0, 1) := by decide +kernel
theorem dX7_undo_35 : decode cX7_undo 35 = .ok (.getfield 13, 3) := by decide +kernel
theorem dX7_undo_38 : decode cX7_undo 38 = .ok (.sipush 354, 3) := by decide +kernel
theorem dX7_undo_41 : decode cX7_undo 41 = .ok (.aload_n 0, 1) := by decide +kernel
theorem dX7_undo_42 : decode cX7_undo 42 = .ok (.getfield 34, 3) := by decide +kernel
theorem dX7_undo_45 : decode cX7_undo 45 = .ok (.imul, 1) := by decide +kernel
theorem dX7_undo_46 : decode cX7_undo 46 = .ok (.iload_n 1, 1) := by decide +kernel
theorem dX7_undo_47 : decode cX7_undo 47 = .ok (.iadd, 1) := by decide +kernel
theorem dX7_undo_48 : decode cX7_undo 48 = .ok (.iaload, 1) := by decide +kernel
theorem dX7_undo_49 : decode cX7_undo 49 = .ok (.iastore, 1) := by decide +kernel
theorem dX7_undo_50 : decode cX7_undo 50 = .ok (.iinc 1 1, 3) := by decide +kernel
theorem dX7_undo_53 : decode cX7_undo 53 = .ok (.goto (-31), 3) := by decide +kernel
theorem dX7_undo_56 : decode cX7_undo 56 = .ok (.aload_n 0, 1) := by decide +kernel
theorem dX7_undo_57 : decode cX7_undo 57 = .ok (.getfield 34, 3) := by decide +kernel
theorem dX7_undo_60 : decode cX7_undo 60 = .ok (.ireturn, 1) := by decide +kernel
set_option maxRecDepth 20000 in
theorem ggX7_isItem_X7_in : GoodIn wsX7_isItem wsX7_in := goodIn_r _ [5] (by decide +kernel) (by decide +kernel)
set_option maxRecDepth 20000 in
theorem gX7_isItem_X7_in : GoodIn wsX7_isItem (va_wsS RX7 38 yX7_in wsX7_in) := goodIn_app (goodIn_of _ (by decide +kernel)) ggX7_isItem_X7_in
theorem dX7_isItem_0 : decode cX7_isItem 0 = .ok (.iload_n 1, 1) := by decide +kernel
theorem dX7_isItem_1 : decode cX7_isItem 1 = .ok (.iconst 0, 1) := by decide +kernel
theorem dX7_isItem_2 : decode cX7_isItem 2 = .ok (.aload_n 0, 1) := by decide +kernel
theorem dX7_isItem_3 : decode cX7_isItem 3 = .ok (.getfield 7, 3) := by decide +kernel
theorem dX7_isItem_6 : decode cX7_isItem 6 = .ok (.iconst 5, 1) := by decide +kernel
theorem dX7_isItem_7 : decode cX7_isItem 7 = .ok (.iaload, 1) := by decide +kernel
theorem dX7_isItem_8 : decode cX7_isItem 8 = .ok (.iconst 1, 1) := by decide +kernel
theorem dX7_isItem_9 : decode cX7_isItem 9 = .ok (.isub, 1) := by decide +kernel
theorem dX7_isItem_10 : decode cX7_isItem 10 = .ok (.invokestatic 38, 3) := by decide +kernel
theorem dX7_isItem_13 : decode cX7_isItem 13 = .ok (.ireturn, 1) := by decide +kernel
set_option maxRecDepth 20000 in
theorem ggX7_isMonth_X7_in : GoodIn wsX7_isMonth wsX7_in := goodIn_r _ [4] (by decide +kernel) (by decide +kernel)
set_option maxRecDepth 20000 in
theorem gX7_isMonth_X7_in : GoodIn wsX7_isMonth (va_wsS RX7 38 yX7_in wsX7_in) := goodIn_app (goodIn_of _ (by decide +kernel)) ggX7_isMonth_X7_in
theorem dX7_isMonth_0 : decode cX7_isMonth 0 = .ok (.iload_n 0, 1) := by decide +kernel
theorem dX7_isMonth_1 : decode cX7_isMonth 1 = .ok (.iconst 0, 1) := by decide +kernel
theorem dX7_isMonth_2 : decode cX7_isMonth 2 = .ok (.bipush 23, 2) := by decide +kernel
theorem dX7_isMonth_4 : decode cX7_isMonth 4 = .ok (.invokestatic 38, 3) := by decide +kernel
theorem dX7_isMonth_7 : decode cX7_isMonth 7 = .ok (.ireturn, 1) := by decide +kernel
set_option maxRecDepth 20000 in
theorem ggX7_isStratum_X7_in : GoodIn wsX7_isStratum wsX7_in := goodIn_r _ [4] (by decide +kernel) (by decide +kernel)
set_option maxRecDepth 20000 in
theorem gX7_isStratum_X7_in : GoodIn wsX7_isStratum (va_wsS RX7 38 yX7_in wsX7_in) := goodIn_app (goodIn_of _ (by decide +kernel)) ggX7_isStratum_X7_in
theorem dX7_isStratum_0 : decode cX7_isStratum 0 = .ok (.iload_n 0, 1) := by decide +kernel
theorem dX7_isStratum_1 : decode cX7_isStratum 1 = .ok (.iconst 0, 1) := by decide +kernel
theorem dX7_isStratum_2 : decode cX7_isStratum 2 = .ok (.iconst 3, 1) := by decide +kernel
theorem dX7_isStratum_3 : decode cX7_isStratum 3 = .ok (.invokestatic 38, 3) := by decide +kernel
theorem dX7_isStratum_6 : decode cX7_isStratum 6 = .ok (.ireturn, 1) := by decide +kernel
set_option maxRecDepth 20000 in
theorem ggX7_addItem_X7_isStratum : GoodIn wsX7_addItem wsX7_isStratum := goodIn_r _ [5, 6, 7, 4, 8] (by decide +kernel) (by decide +kernel)
set_option maxRecDepth 20000 in
theorem gX7_addItem_X7_isStratum : GoodIn wsX7_addItem (va_wsS RX7 42 yX7_isStratum wsX7_isStratum) := goodIn_app (goodIn_of _ (by decide +kernel)) ggX7_addItem_X7_isStratum
set_option maxRecDepth 20000 in
theorem ggX7_addItem_X7_in : GoodIn wsX7_addItem wsX7_in := goodIn_r _ [8] (by decide +kernel) (by decide +kernel)
set_option maxRecDepth 20000 in
theorem gX7_addItem_X7_in : GoodIn wsX7_addItem (va_wsS RX7 38 yX7_in wsX7_in) := goodIn_app (goodIn_of _ (by decide +kernel)) ggX7_addItem_X7_in
set_option maxRecDepth 20000 in
theorem ggX7_addItem_X7_edit : GoodIn wsX7_addItem wsX7_edit := goodIn_r _ [12, 13, 14, 1, 15, 16, 17, 18, 19, 20, 21, 22, 23, 24, 25, 26, 27, 28, 29] (by decide +kernel) (by decide +kernel)
set_option maxRecDepth 20000 in
theorem gX7_addItem_X7_edit : GoodIn wsX7_addItem (wsV RX7 46 RX7 yX7_edit wsX7_edit) := goodIn_app (goodIn_of _ (by decide +kernel)) ggX7_addItem_X7_edit
theorem dX7_addItem_0 : decode cX7_addItem 0 = .ok (.iload_n 1, 1) := by decide +kernel
theorem dX7_addItem_1 : decode cX7_addItem 1 = .ok (.invokestatic 42, 3) := by decide +kernel
theorem dX7_addItem_4 : decode cX7_addItem 4 = .ok (.ifCond .eq 25, 3) := by decide +kernel
theorem dX7_addItem_7 : decode cX7_addItem 7 = .ok (.iload_n 2, 1) := by decide +kernel
theorem dX7_addItem_8 : decode cX7_addItem 8 = .ok (.iconst 1, 1) := by decide +kernel
theorem dX7_addItem_9 : decode cX7_addItem 9 = .ok (.sipush 1000, 3) := by decide +kernel
theorem dX7_addItem_12 : decode cX7_addItem 12 = .ok (.invokestatic 38, 3) := by decide +kernel
theorem dX7_addItem_15 : decode cX7_addItem 15 = .ok (.ifCond .eq 14, 3) := by decide +kernel
theorem dX7_addItem_18 : decode cX7_addItem 18 = .ok (.iload_n 3, 1) := by decide +kernel
theorem dX7_addItem_19 : decode cX7_addItem 19 = .ok (.iconst 1, 1) := by decide +kernel
theorem dX7_addItem_20 : decode cX7_addItem 20 = .ok (.sipush 4095, 3) := by decide +kernel
theorem dX7_addItem_23 : decode cX7_addItem 23 = .ok (.invokestatic 38, 3) := by decide +kernel
theorem dX7_addItem_26 : decode cX7_addItem 26 = .ok (.ifCond .ne 5, 3) := by decide +kernel
theorem dX7_addItem_29 : decode cX7_addItem 29 = .ok (.iconst (-1), 1) := by decide +kernel
theorem dX7_addItem_30 : decode cX7_addItem 30 = .ok (.ireturn, 1) := by decide +kernel
theorem dX7_addItem_31 : decode cX7_addItem 31 = .ok (.aload_n 0, 1) := by decide +kernel
theorem dX7_addItem_32 : decode cX7_addItem 32 = .ok (.getfield 7, 3) := by decide +kernel
theorem dX7_addItem_35 : decode cX7_addItem 35 = .ok (.iconst 5, 1) := by decide +kernel
theorem dX7_addItem_36 : decode cX7_addItem 36 = .ok (.iaload, 1) := by decide +kernel
theorem dX7_addItem_37 : decode cX7_addItem 37 = .ok (.istore 4, 2) := by decide +kernel
theorem dX7_addItem_39 : decode cX7_addItem 39 = .ok (.iload 4, 2) := by decide +kernel
theorem dX7_addItem_41 : decode cX7_addItem 41 = .ok (.bipush 12, 2) := by decide +kernel
theorem dX7_addItem_43 : decode cX7_addItem 43 = .ok (.if_icmp .ne 6, 3) := by decide +kernel
theorem dX7_addItem_46 : decode cX7_addItem 46 = .ok (.bipush (-3), 2) := by decide +kernel
theorem dX7_addItem_48 : decode cX7_addItem 48 = .ok (.ireturn, 1) := by decide +kernel
theorem dX7_addItem_49 : decode cX7_addItem 49 = .ok (.aload_n 0, 1) := by decide +kernel
theorem dX7_addItem_50 : decode cX7_addItem 50 = .ok (.invokevirtual 46, 3) := by decide +kernel
theorem dX7_addItem_53 : decode cX7_addItem 53 = .ok (.aload_n 0, 1) := by decide +kernel
theorem dX7_addItem_54 : decode cX7_addItem 54 = .ok (.getfield 7, 3) := by decide +kernel
theorem dX7_addItem_57 : decode cX7_addItem 57 = .ok (.bipush 6, 2) := by decide +kernel
theorem dX7_addItem_59 : decode cX7_addItem 59 = .ok (.iload 4, 2) := by decide +kernel
theorem dX7_addItem_61 : decode cX7_addItem 61 = .ok (.iadd, 1) := by decide +kernel
theorem dX7_addItem_62 : decode cX7_addItem 62 = .ok (.iload_n 1, 1) := by decide +kernel
theorem dX7_addItem_63 : decode cX7_addItem 63 = .ok (.iastore, 1) := by decide +kernel
theorem dX7_addItem_64 : decode cX7_addItem 64 = .ok (.aload_n 0, 1) := by decide +kernel
theorem dX7_addItem_65 : decode cX7_addItem 65 = .ok (.getfield 7, 3) := by decide +kernel
theorem dX7_addItem_68 : decode cX7_addItem 68 = .ok (.bipush 18, 2) := by decide +kernel
theorem dX7_addItem_70 : decode cX7_addItem 70 = .ok (.iload 4, 2) := by decide +kernel
theorem dX7_addItem_72 : decode cX7_addItem 72 = .ok (.iadd, 1) := by decide +kernel
theorem dX7_addItem_73 : decode cX7_addItem 73 = .ok (.iload_n 2, 1) := by decide +kernel
theorem dX7_addItem_74 : decode cX7_addItem 74 = .ok (.iastore, 1) := by decide +kernel
theorem dX7_addItem_75 : decode cX7_addItem 75 = .ok (.aload_n 0, 1) := by decide +kernel
theorem dX7_addItem_76 : decode cX7_addItem 76 = .ok (.getfield 7, 3) := by decide +kernel
theorem dX7_addItem_79 : decode cX7_addItem 79 = .ok (.bipush 30, 2) := by decide +kernel
theorem dX7_addItem_81 : decode cX7_addItem 81 = .ok (.iload 4, 2) := by decide +kernel
theorem dX7_addItem_83 : decode cX7_addItem 83 = .ok (.iadd, 1) := by decide +kernel
theorem dX7_addItem_84 : decode cX7_addItem 84 = .ok (.iload_n 3, 1) := by decide +kernel
theorem dX7_addItem_85 : decode cX7_addItem 85 = .ok (.iastore, 1) := by decide +kernel
theorem dX7_addItem_86 : decode cX7_addItem 86 = .ok (.aload_n 0, 1) := by decide +kernel
theorem dX7_addItem_87 : decode cX7_addItem 87 = .ok (.getfield 7, 3) := by decide +kernel
theorem dX7_addItem_90 : decode cX7_addItem 90 = .ok (.iconst 5, 1) := by decide +kernel
theorem dX7_addItem_91 : decode cX7_addItem 91 = .ok (.dup2, 1) := by decide +kernel
theorem dX7_addItem_92 : decode cX7_addItem 92 = .ok (.iaload, 1) := by decide +kernel
theorem dX7_addItem_93 : decode cX7_addItem 93 = .ok (.iconst 1, 1) := by decide +kernel
theorem dX7_addItem_94 : decode cX7_addItem 94 = .ok (.iadd, 1) := by decide +kernel
theorem dX7_addItem_95 : decode cX7_addItem 95 = .ok (.iastore, 1) := by decide +kernel
theorem dX7_addItem_96 : decode cX7_addItem 96 = .ok (.iload 4, 2) := by decide +kernel
theorem dX7_addItem_98 : decode cX7_addItem 98 = .ok (.ireturn, 1) := by decide +kernel
theorem dX7_itemCount_0 : decode cX7_itemCount 0 = .ok (.aload_n 0, 1) := by decide +kernel
theorem dX7_itemCount_1 : decode cX7_itemCount 1 = .ok (.getfield 7, 3) := by decide +kernel
theorem dX7_itemCount_4 : decode cX7_itemCount 4 = .ok (.iconst 5, 1) := by decide +kernel
theorem dX7_itemCount_5 : decode cX7_itemCount 5 = .ok (.iaload, 1) := by decide +kernel
theorem dX7_itemCount_6 : decode cX7_itemCount 6 = .ok (.ireturn, 1) := by decide +kernel
set_option maxRecDepth 20000 in
theorem ggX7_setPrice_X7_isItem : GoodIn wsX7_setPrice wsX7_isItem := goodIn_r _ [7, 2, 8, 9, 6, 10, 20, 21, 22, 23, 24, 25, 26, 27, 28, 29, 30, 31, 32, 33, 34] (by decide +kernel) (by decide +kernel)
set_option maxRecDepth 20000 in
theorem gX7_setPrice_X7_isItem : GoodIn wsX7_setPrice (wsV RX7 49 RX7 yX7_isItem wsX7_isItem) := goodIn_app (goodIn_of _ (by decide +kernel)) ggX7_setPrice_X7_isItem
set_option maxRecDepth 20000 in
theorem ggX7_setPrice_X7_isMonth : GoodIn wsX7_setPrice wsX7_isMonth := goodIn_r _ [13, 8, 9, 6, 10] (by decide +kernel) (by decide +kernel)
set_option maxRecDepth 20000 in
theorem gX7_setPrice_X7_isMonth : GoodIn wsX7_setPrice (va_wsS RX7 52 yX7_isMonth wsX7_isMonth) := goodIn_app (goodIn_of _ (by decide +kernel)) ggX7_setPrice_X7_isMonth
set_option maxRecDepth 20000 in
theorem ggX7_setPrice_X7_in : GoodIn wsX7_setPrice wsX7_in := goodIn_r _ [10] (by decide +kernel) (by decide +kernel)
set_option maxRecDepth 20000 in
theorem gX7_setPrice_X7_in : GoodIn wsX7_setPrice (va_wsS RX7 38 yX7_in wsX7_in) := goodIn_app (goodIn_of _ (by decide +kernel)) ggX7_setPrice_X7_in
set_option maxRecDepth 20000 in
theorem ggX7_setPrice_X7_edit : GoodIn wsX7_setPrice wsX7_edit := goodIn_r _ [17, 18, 19, 2, 20, 21, 22, 23, 24, 25, 26, 27, 28, 29, 30, 31, 32, 33, 34] (by decide +kernel) (by decide +kernel)
set_option maxRecDepth 20000 in
theorem gX7_setPrice_X7_edit : GoodIn wsX7_setPrice (wsV RX7 46 RX7 yX7_edit wsX7_edit) := goodIn_app (goodIn_of _ (by decide +kernel)) ggX7_setPrice_X7_edit
theorem dX7_setPrice_0 : decode cX7_setPrice 0 = .ok (.aload_n 0, 1) := by decide +kernel
theorem dX7_setPrice_1 : decode cX7_setPrice 1 = .ok (.iload_n 1, 1) := by decide +kernel
theorem dX7_setPrice_2 : decode cX7_setPrice 2 = .ok (.invokevirtual 49, 3) := by decide +kernel
theorem dX7_setPrice_5 : decode cX7_setPrice 5 = .ok (.ifCond .eq 20, 3) := by decide +kernel
theorem dX7_setPrice_8 : decode cX7_setPrice 8 = .ok (.iload_n 2, 1) := by decide +kernel
theorem dX7_setPrice_9 : decode cX7_setPrice 9 = .ok (.invokestatic 52, 3) := by decide +kernel
theorem dX7_setPrice_12 : decode cX7_setPrice 12 = .ok (.ifCond .eq 13, 3) := by decide +kernel
theorem dX7_setPrice_15 : decode cX7_setPrice 15 = .ok (.iload_n 3, 1) := by decide +kernel
theorem dX7_setPrice_16 : decode cX7_setPrice 16 = .ok (.iconst 0, 1) := by decide +kernel
theorem dX7_setPrice_17 : decode cX7_setPrice 17 = .ok (.ldc 55, 2) := by decide +kernel
theorem dX7_setPrice_19 : decode cX7_setPrice 19 = .ok (.invokestatic 38, 3) := by decide +kernel
theorem dX7_setPrice_22 : decode cX7_setPrice 22 = .ok (.ifCond .ne 5, 3) := by decide +kernel
theorem dX7_setPrice_25 : decode cX7_setPrice 25 = .ok (.iconst (-1), 1) := by decide +kernel
theorem dX7_setPrice_26 : decode cX7_setPrice 26 = .ok (.ireturn, 1) := by decide +kernel
theorem dX7_setPrice_27 : decode cX7_setPrice 27 = .ok (.aload_n 0, 1) := by decide +kernel
theorem dX7_setPrice_28 : decode cX7_setPrice 28 = .ok (.invokevirtual 46, 3) := by decide +kernel
theorem dX7_setPrice_31 : decode cX7_setPrice 31 = .ok (.aload_n 0, 1) := by decide +kernel
theorem dX7_setPrice_32 : decode cX7_setPrice 32 = .ok (.getfield 7, 3) := by decide +kernel
theorem dX7_setPrice_35 : decode cX7_setPrice 35 = .ok (.bipush 66, 2) := by decide +kernel
theorem dX7_setPrice_37 : decode cX7_setPrice 37 = .ok (.bipush 24, 2) := by decide +kernel
theorem dX7_setPrice_39 : decode cX7_setPrice 39 = .ok (.iload_n 1, 1) := by decide +kernel
theorem dX7_setPrice_40 : decode cX7_setPrice 40 = .ok (.imul, 1) := by decide +kernel
theorem dX7_setPrice_41 : decode cX7_setPrice 41 = .ok (.iadd, 1) := by decide +kernel
theorem dX7_setPrice_42 : decode cX7_setPrice 42 = .ok (.iload_n 2, 1) := by decide +kernel
theorem dX7_setPrice_43 : decode cX7_setPrice 43 = .ok (.iadd, 1) := by decide +kernel
theorem dX7_setPrice_44 : decode cX7_setPrice 44 = .ok (.iaload, 1) := by decide +kernel
theorem dX7_setPrice_45 : decode cX7_setPrice 45 = .ok (.istore 4, 2) := by decide +kernel
theorem dX7_setPrice_47 : decode cX7_setPrice 47 = .ok (.aload_n 0, 1) := by decide +kernel
theorem dX7_setPrice_48 : decode cX7_setPrice 48 = .ok (.getfield 7, 3) := by decide +kernel
theorem dX7_setPrice_51 : decode cX7_setPrice 51 = .ok (.bipush 66, 2) := by decide +kernel
theorem dX7_setPrice_53 : decode cX7_setPrice 53 = .ok (.bipush 24, 2) := by decide +kernel
theorem dX7_setPrice_55 : decode cX7_setPrice 55 = .ok (.iload_n 1, 1) := by decide +kernel
theorem dX7_setPrice_56 : decode cX7_setPrice 56 = .ok (.imul, 1) := by decide +kernel
theorem dX7_setPrice_57 : decode cX7_setPrice 57 = .ok (.iadd, 1) := by decide +kernel
theorem dX7_setPrice_58 : decode cX7_setPrice 58 = .ok (.iload_n 2, 1) := by decide +kernel
theorem dX7_setPrice_59 : decode cX7_setPrice 59 = .ok (.iadd, 1) := by decide +kernel
theorem dX7_setPrice_60 : decode cX7_setPrice 60 = .ok (.iload_n 3, 1) := by decide +kernel
theorem dX7_setPrice_61 : decode cX7_setPrice 61 = .ok (.iastore, 1) := by decide +kernel
theorem dX7_setPrice_62 : decode cX7_setPrice 62 = .ok (.iload 4, 2) := by decide +kernel
theorem dX7_setPrice_64 : decode cX7_setPrice 64 = .ok (.ireturn, 1) := by decide +kernel
set_option maxRecDepth 20000 in
theorem ggX7_quotedPrice_X7_isItem : GoodIn wsX7_quotedPrice wsX7_isItem := goodIn_r _ [6, 1, 7, 8, 5, 9, 13, 14, 15, 16, 17, 18, 19, 20, 21, 22, 23, 24, 25, 26, 27] (by decide +kernel) (by decide +kernel)
set_option maxRecDepth 20000 in
theorem gX7_quotedPrice_X7_isItem : GoodIn wsX7_quotedPrice (wsV RX7 49 RX7 yX7_isItem wsX7_isItem) := goodIn_app (goodIn_of _ (by decide +kernel)) ggX7_quotedPrice_X7_isItem
set_option maxRecDepth 20000 in
theorem ggX7_quotedPrice_X7_isMonth : GoodIn wsX7_quotedPrice wsX7_isMonth := goodIn_r _ [12, 7, 8, 5, 9] (by decide +kernel) (by decide +kernel)
set_option maxRecDepth 20000 in
theorem gX7_quotedPrice_X7_isMonth : GoodIn wsX7_quotedPrice (va_wsS RX7 52 yX7_isMonth wsX7_isMonth) := goodIn_app (goodIn_of _ (by decide +kernel)) ggX7_quotedPrice_X7_isMonth
theorem dX7_quotedPrice_0 : decode cX7_quotedPrice 0 = .ok (.aload_n 0, 1) := by decide +kernel
theorem dX7_quotedPrice_1 : decode cX7_quotedPrice 1 = .ok (.iload_n 1, 1) := by decide +kernel
theorem dX7_quotedPrice_2 : decode cX7_quotedPrice 2 = .ok (.invokevirtual 49, 3) := by decide +kernel
theorem dX7_quotedPrice_5 : decode cX7_quotedPrice 5 = .ok (.ifCond .eq 27, 3) := by decide +kernel
theorem dX7_quotedPrice_8 : decode cX7_quotedPrice 8 = .ok (.iload_n 2, 1) := by decide +kernel
theorem dX7_quotedPrice_9 : decode cX7_quotedPrice 9 = .ok (.invokestatic 52, 3) := by decide +kernel
theorem dX7_quotedPrice_12 : decode cX7_quotedPrice 12 = .ok (.ifCond .eq 20, 3) := by decide +kernel
theorem dX7_quotedPrice_15 : decode cX7_quotedPrice 15 = .ok (.aload_n 0, 1) := by decide +kernel
theorem dX7_quotedPrice_16 : decode cX7_quotedPrice 16 = .ok (.getfield 7, 3) := by decide +kernel
theorem dX7_quotedPrice_19 : decode cX7_quotedPrice 19 = .ok (.bipush 66, 2) := by decide +kernel
theorem dX7_quotedPrice_21 : decode cX7_quotedPrice 21 = .ok (.bipush 24, 2) := by decide +kernel
theorem dX7_quotedPrice_23 : decode cX7_quotedPrice 23 = .ok (.iload_n 1, 1) := by decide +kernel
theorem dX7_quotedPrice_24 : decode cX7_quotedPrice 24 = .ok (.imul, 1) := by decide +kernel
theorem dX7_quotedPrice_25 : decode cX7_quotedPrice 25 = .ok (.iadd, 1) := by decide +kernel
theorem dX7_quotedPrice_26 : decode cX7_quotedPrice 26 = .ok (.iload_n 2, 1) := by decide +kernel
theorem dX7_quotedPrice_27 : decode cX7_quotedPrice 27 = .ok (.iadd, 1) := by decide +kernel
theorem dX7_quotedPrice_28 : decode cX7_quotedPrice 28 = .ok (.iaload, 1) := by decide +kernel
theorem dX7_quotedPrice_29 : decode cX7_quotedPrice 29 = .ok (.goto 4, 3) := by decide +kernel
theorem dX7_quotedPrice_32 : decode cX7_quotedPrice 32 = .ok (.iconst (-1), 1) := by decide +kernel
theorem dX7_quotedPrice_33 : decode cX7_quotedPrice 33 = .ok (.ireturn, 1) := by decide +kernel
set_option maxRecDepth 20000 in
theorem ggX7_appendCharacter_X7_in : GoodIn wsX7_appendCharacter wsX7_in := goodIn_r _ [6] (by decide +kernel) (by decide +kernel)
set_option maxRecDepth 20000 in
theorem gX7_appendCharacter_X7_in : GoodIn wsX7_appendCharacter (va_wsS RX7 38 yX7_in wsX7_in) := goodIn_app (goodIn_of _ (by decide +kernel)) ggX7_appendCharacter_X7_in
theorem dX7_appendCharacter_0 : decode cX7_appendCharacter 0 = .ok (.iload_n 1, 1) := by decide +kernel
theorem dX7_appendCharacter_1 : decode cX7_appendCharacter 1 = .ok (.iconst 0, 1) := by decide +kernel
theorem dX7_appendCharacter_2 : decode cX7_appendCharacter 2 = .ok (.sipush 255, 3) := by decide +kernel
theorem dX7_appendCharacter_5 : decode cX7_appendCharacter 5 = .ok (.invokestatic 38, 3) := by decide +kernel
theorem dX7_appendCharacter_8 : decode cX7_appendCharacter 8 = .ok (.ifCond .ne 5, 3) := by decide +kernel
theorem dX7_appendCharacter_11 : decode cX7_appendCharacter 11 = .ok (.iconst (-1), 1) := by decide +kernel
theorem dX7_appendCharacter_12 : decode cX7_appendCharacter 12 = .ok (.ireturn, 1) := by decide +kernel
theorem dX7_appendCharacter_13 : decode cX7_appendCharacter 13 = .ok (.aload_n 0, 1) := by decide +kernel
theorem dX7_appendCharacter_14 : decode cX7_appendCharacter 14 = .ok (.getfield 56, 3) := by decide +kernel
theorem dX7_appendCharacter_17 : decode cX7_appendCharacter 17 = .ok (.bipush 60, 2) := by decide +kernel
theorem dX7_appendCharacter_19 : decode cX7_appendCharacter 19 = .ok (.if_icmp .ne 6, 3) := by decide +kernel
theorem dX7_appendCharacter_22 : decode cX7_appendCharacter 22 = .ok (.bipush (-3), 2) := by decide +kernel
theorem dX7_appendCharacter_24 : decode cX7_appendCharacter 24 = .ok (.ireturn, 1) := by decide +kernel
theorem dX7_appendCharacter_25 : decode cX7_appendCharacter 25 = .ok (.aload_n 0, 1) := by decide +kernel
theorem dX7_appendCharacter_26 : decode cX7_appendCharacter 26 = .ok (.getfield 16, 3) := by decide +kernel
theorem dX7_appendCharacter_29 : decode cX7_appendCharacter 29 = .ok (.aload_n 0, 1) := by decide +kernel
theorem dX7_appendCharacter_30 : decode cX7_appendCharacter 30 = .ok (.getfield 56, 3) := by decide +kernel
theorem dX7_appendCharacter_33 : decode cX7_appendCharacter 33 = .ok (.iload_n 1, 1) := by decide +kernel
theorem dX7_appendCharacter_34 : decode cX7_appendCharacter 34 = .ok (.i2b, 1) := by decide +kernel
theorem dX7_appendCharacter_35 : decode cX7_appendCharacter 35 = .ok (.bastore, 1) := by decide +kernel
theorem dX7_appendCharacter_36 : decode cX7_appendCharacter 36 = .ok (.aload_n 0, 1) := by decide +kernel
theorem dX7_appendCharacter_37 : decode cX7_appendCharacter 37 = .ok (.dup, 1) := by decide +kernel
theorem dX7_appendCharacter_38 : decode cX7_appendCharacter 38 = .ok (.getfield 56, 3) := by decide +kernel
theorem dX7_appendCharacter_41 : decode cX7_appendCharacter 41 = .ok (.iconst 1, 1) := by decide +kernel
theorem dX7_appendCharacter_42 : decode cX7_appendCharacter 42 = .ok (.iadd, 1) := by decide +kernel
theorem dX7_appendCharacter_43 : decode cX7_appendCharacter 43 = .ok (.putfield 56, 3) := by decide +kernel
theorem dX7_appendCharacter_46 : decode cX7_appendCharacter 46 = .ok (.aload_n 0, 1) := by decide +kernel
theorem dX7_appendCharacter_47 : decode cX7_appendCharacter 47 = .ok (.getfield 56, 3) := by decide +kernel
theorem dX7_appendCharacter_50 : decode cX7_appendCharacter 50 = .ok (.ireturn, 1) := by decide +kernel
theorem dX7_clearText_0 : decode cX7_clearText 0 = .ok (.aload_n 0, 1) := by decide +kernel
theorem dX7_clearText_1 : decode cX7_clearText 1 = .ok (.getfield 56, 3) := by decide +kernel
theorem dX7_clearText_4 : decode cX7_clearText 4 = .ok (.istore_n 1, 1) := by decide +kernel
theorem dX7_clearText_5 : decode cX7_clearText 5 = .ok (.aload_n 0, 1) := by decide +kernel
theorem dX7_clearText_6 : decode cX7_clearText 6 = .ok (.iconst 0, 1) := by decide +kernel
theorem dX7_clearText_7 : decode cX7_clearText 7 = .ok (.putfield 56, 3) := by decide +kernel
theorem dX7_clearText_10 : decode cX7_clearText 10 = .ok (.iload_n 1, 1) := by decide +kernel
theorem dX7_clearText_11 : decode cX7_clearText 11 = .ok (.ireturn, 1) := by decide +kernel
set_option maxRecDepth 20000 in
theorem ggX7_isDigit_X7_in : GoodIn wsX7_isDigit wsX7_in := goodIn_r _ [6] (by decide +kernel) (by decide +kernel)
set_option maxRecDepth 20000 in
theorem gX7_isDigit_X7_in : GoodIn wsX7_isDigit (va_wsS RX7 38 yX7_in wsX7_in) := goodIn_app (goodIn_of _ (by decide +kernel)) ggX7_isDigit_X7_in
theorem dX7_isDigit_0 : decode cX7_isDigit 0 = .ok (.iload_n 1, 1) := by decide +kernel
theorem dX7_isDigit_1 : decode cX7_isDigit 1 = .ok (.aload_n 0, 1) := by decide +kernel
theorem dX7_isDigit_2 : decode cX7_isDigit 2 = .ok (.getfield 56, 3) := by decide +kernel
theorem dX7_isDigit_5 : decode cX7_isDigit 5 = .ok (.if_icmp .ge 23, 3) := by decide +kernel
theorem dX7_isDigit_8 : decode cX7_isDigit 8 = .ok (.aload_n 0, 1) := by decide +kernel
theorem dX7_isDigit_9 : decode cX7_isDigit 9 = .ok (.getfield 16, 3) := by decide +kernel
theorem dX7_isDigit_12 : decode cX7_isDigit 12 = .ok (.iload_n 1, 1) := by decide +kernel
theorem dX7_isDigit_13 : decode cX7_isDigit 13 = .ok (.baload, 1) := by decide +kernel
theorem dX7_isDigit_14 : decode cX7_isDigit 14 = .ok (.bipush 48, 2) := by decide +kernel
theorem dX7_isDigit_16 : decode cX7_isDigit 16 = .ok (.bipush 57, 2) := by decide +kernel
theorem dX7_isDigit_18 : decode cX7_isDigit 18 = .ok (.invokestatic 38, 3) := by decide +kernel
theorem dX7_isDigit_21 : decode cX7_isDigit 21 = .ok (.ifCond .eq 7, 3) := by decide +kernel
theorem dX7_isDigit_24 : decode cX7_isDigit 24 = .ok (.iconst 1, 1) := by decide +kernel
theorem dX7_isDigit_25 : decode cX7_isDigit 25 = .ok (.goto 4, 3) := by decide +kernel
theorem dX7_isDigit_28 : decode cX7_isDigit 28 = .ok (.iconst 0, 1) := by decide +kernel
theorem dX7_isDigit_29 : decode cX7_isDigit 29 = .ok (.ireturn, 1) := by decide +kernel
set_option maxRecDepth 20000 in
theorem ggX7_number_X7_isDigit : GoodIn wsX7_number wsX7_isDigit := goodIn_r _ [8, 9, 2, 10, 11, 7, 12, 13, 14, 15, 16, 17, 18, 19, 20, 21, 22, 23, 24, 25, 26, 27] (by decide +kernel) (by decide +kernel)
set_option maxRecDepth 20000 in
theorem gX7_number_X7_isDigit : GoodIn wsX7_number (wsV RX7 62 RX7 yX7_isDigit wsX7_isDigit) := goodIn_app (goodIn_of _ (by decide +kernel)) ggX7_number_X7_isDigit
theorem dX7_number_0 : decode cX7_number 0 = .ok (.aload_n 0, 1) := by decide +kernel
theorem dX7_number_1 : decode cX7_number 1 = .ok (.getfield 59, 3) := by decide +kernel
theorem dX7_number_4 : decode cX7_number 4 = .ok (.istore_n 2, 1) := by decide +kernel
theorem dX7_number_5 : decode cX7_number 5 = .ok (.iconst 0, 1) := by decide +kernel
theorem dX7_number_6 : decode cX7_number 6 = .ok (.istore_n 3, 1) := by decide +kernel
theorem dX7_number_7 : decode cX7_number 7 = .ok (.iload_n 2, 1) := by decide +kernel
theorem dX7_number_8 : decode cX7_number 8 = .ok (.istore 4, 2) := by decide +kernel
theorem dX7_number_10 : decode cX7_number 10 = .ok (.aload_n 0, 1) := by decide +kernel
theorem dX7_number_11 : decode cX7_number 11 = .ok (.iload 4, 2) := by decide +kernel
theorem dX7_number_13 : decode cX7_number 13 = .ok (.invokevirtual 62, 3) := by decide +kernel
theorem dX7_number_16 : decode cX7_number 16 = .ok (.ifCond .eq 37, 3) := by decide +kernel
theorem dX7_number_19 : decode cX7_number 19 = .ok (.iload 4, 2) := by decide +kernel
theorem dX7_number_21 : decode cX7_number 21 = .ok (.iload_n 2, 1) := by decide +kernel
theorem dX7_number_22 : decode cX7_number 22 = .ok (.isub, 1) := by decide +kernel
theorem dX7_number_23 : decode cX7_number 23 = .ok (.iconst 5, 1) := by decide +kernel
theorem dX7_number_24 : decode cX7_number 24 = .ok (.if_icmp .ge 21, 3) := by decide +kernel
theorem dX7_number_27 : decode cX7_number 27 = .ok (.bipush 10, 2) := by decide +kernel
theorem dX7_number_29 : decode cX7_number 29 = .ok (.iload_n 3, 1) := by decide +kernel
theorem dX7_number_30 : decode cX7_number 30 = .ok (.imul, 1) := by decide +kernel
theorem dX7_number_31 : decode cX7_number 31 = .ok (.aload_n 0, 1) := by decide +kernel
theorem dX7_number_32 : decode cX7_number 32 = .ok (.getfield 16, 3) := by decide +kernel
theorem dX7_number_35 : decode cX7_number 35 = .ok (.iload 4, 2) := by decide +kernel
theorem dX7_number_37 : decode cX7_number 37 = .ok (.baload, 1) := by decide +kernel
theorem dX7_number_38 : decode cX7_number 38 = .ok (.iadd, 1) := by decide +kernel
theorem dX7_number_39 : decode cX7_number 39 = .ok (.bipush 48, 2) := by decide +kernel
theorem dX7_number_41 : decode cX7_number 41 = .ok (.isub, 1) := by decide +kernel
theorem dX7_number_42 : decode cX7_number 42 = .ok (.goto 4, 3) := by decide +kernel
theorem dX7_number_45 : decode cX7_number 45 = .ok (.iload_n 3, 1) := by decide +kernel
theorem dX7_number_46 : decode cX7_number 46 = .ok (.istore_n 3, 1) := by decide +kernel
theorem dX7_number_47 : decode cX7_number 47 = .ok (.iinc 4 1, 3) := by decide +kernel
theorem dX7_number_50 : decode cX7_number 50 = .ok (.goto (-40), 3) := by decide +kernel
theorem dX7_number_53 : decode cX7_number 53 = .ok (.aload_n 0, 1) := by decide +kernel
theorem dX7_number_54 : decode cX7_number 54 = .ok (.aload_n 0, 1) := by decide +kernel
theorem dX7_number_55 : decode cX7_number 55 = .ok (.getfield 65, 3) := by decide +kernel
theorem dX7_number_58 : decode cX7_number 58 = .ok (.ifCond .ne 41, 3) := by decide +kernel
theorem dX7_number_61 : decode cX7_number 61 = .ok (.iload 4, 2) := by decide +kernel
theorem dX7_number_63 : decode cX7_number 63 = .ok (.iload_n 2, 1) := by decide +kernel
