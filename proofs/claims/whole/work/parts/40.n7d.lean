theorem dX7_find_26 : decode cX7_find 26 = .ok (.istore_n 3, 1) := by decide +kernel
theorem dX7_find_27 : decode cX7_find 27 = .ok (.aload_n 0, 1) := by decide +kernel
theorem dX7_find_28 : decode cX7_find 28 = .ok (.iload_n 2, 1) := by decide +kernel
theorem dX7_find_29 : decode cX7_find 29 = .ok (.iload_n 1, 1) := by decide +kernel
theorem dX7_find_30 : decode cX7_find 30 = .ok (.invokevirtual 108, 3) := by decide +kernel
theorem dX7_find_33 : decode cX7_find 33 = .ok (.istore 4, 2) := by decide +kernel
theorem dX7_find_35 : decode cX7_find 35 = .ok (.aload_n 0, 1) := by decide +kernel
theorem dX7_find_36 : decode cX7_find 36 = .ok (.getfield 31, 3) := by decide +kernel
theorem dX7_find_39 : decode cX7_find 39 = .ok (.iload_n 3, 1) := by decide +kernel
theorem dX7_find_40 : decode cX7_find 40 = .ok (.iload 4, 2) := by decide +kernel
theorem dX7_find_42 : decode cX7_find 42 = .ok (.ifCond .ne 22, 3) := by decide +kernel
theorem dX7_find_45 : decode cX7_find 45 = .ok (.iload_n 1, 1) := by decide +kernel
theorem dX7_find_46 : decode cX7_find 46 = .ok (.ifCond .le 18, 3) := by decide +kernel
theorem dX7_find_49 : decode cX7_find 49 = .ok (.aload_n 0, 1) := by decide +kernel
theorem dX7_find_50 : decode cX7_find 50 = .ok (.getfield 27, 3) := by decide +kernel
theorem dX7_find_53 : decode cX7_find 53 = .ok (.iload_n 3, 1) := by decide +kernel
theorem dX7_find_54 : decode cX7_find 54 = .ok (.iconst 1, 1) := by decide +kernel
theorem dX7_find_55 : decode cX7_find 55 = .ok (.isub, 1) := by decide +kernel
theorem dX7_find_56 : decode cX7_find 56 = .ok (.baload, 1) := by decide +kernel
theorem dX7_find_57 : decode cX7_find 57 = .ok (.ifCond .eq 7, 3) := by decide +kernel
theorem dX7_find_60 : decode cX7_find 60 = .ok (.iconst 1, 1) := by decide +kernel
theorem dX7_find_61 : decode cX7_find 61 = .ok (.goto 4, 3) := by decide +kernel
theorem dX7_find_64 : decode cX7_find 64 = .ok (.iconst 0, 1) := by decide +kernel
theorem dX7_find_65 : decode cX7_find 65 = .ok (.bastore, 1) := by decide +kernel
theorem dX7_find_66 : decode cX7_find 66 = .ok (.aload_n 0, 1) := by decide +kernel
theorem dX7_find_67 : decode cX7_find 67 = .ok (.getfield 27, 3) := by decide +kernel
theorem dX7_find_70 : decode cX7_find 70 = .ok (.iload_n 3, 1) := by decide +kernel
theorem dX7_find_71 : decode cX7_find 71 = .ok (.iload 4, 2) := by decide +kernel
theorem dX7_find_73 : decode cX7_find 73 = .ok (.ifCond .ne 12, 3) := by decide +kernel
theorem dX7_find_76 : decode cX7_find 76 = .ok (.aload_n 0, 1) := by decide +kernel
theorem dX7_find_77 : decode cX7_find 77 = .ok (.getfield 31, 3) := by decide +kernel
theorem dX7_find_80 : decode cX7_find 80 = .ok (.iload_n 3, 1) := by decide +kernel
theorem dX7_find_81 : decode cX7_find 81 = .ok (.baload, 1) := by decide +kernel
theorem dX7_find_82 : decode cX7_find 82 = .ok (.ifCond .eq 7, 3) := by decide +kernel
theorem dX7_find_85 : decode cX7_find 85 = .ok (.iconst 1, 1) := by decide +kernel
theorem dX7_find_86 : decode cX7_find 86 = .ok (.goto 4, 3) := by decide +kernel
theorem dX7_find_89 : decode cX7_find 89 = .ok (.iconst 0, 1) := by decide +kernel
theorem dX7_find_90 : decode cX7_find 90 = .ok (.bastore, 1) := by decide +kernel
theorem dX7_find_91 : decode cX7_find 91 = .ok (.iload 4, 2) := by decide +kernel
theorem dX7_find_93 : decode cX7_find 93 = .ok (.ifCond .eq 18, 3) := by decide +kernel
theorem dX7_find_96 : decode cX7_find 96 = .ok (.aload_n 0, 1) := by decide +kernel
theorem dX7_find_97 : decode cX7_find 97 = .ok (.getfield 23, 3) := by decide +kernel
theorem dX7_find_100 : decode cX7_find 100 = .ok (.iload_n 3, 1) := by decide +kernel
theorem dX7_find_101 : decode cX7_find 101 = .ok (.aload_n 0, 1) := by decide +kernel
theorem dX7_find_102 : decode cX7_find 102 = .ok (.iload_n 2, 1) := by decide +kernel
theorem dX7_find_103 : decode cX7_find 103 = .ok (.iload_n 1, 1) := by decide +kernel
theorem dX7_find_104 : decode cX7_find 104 = .ok (.invokevirtual 118, 3) := by decide +kernel
theorem dX7_find_107 : decode cX7_find 107 = .ok (.fastore, 1) := by decide +kernel
theorem dX7_find_108 : decode cX7_find 108 = .ok (.goto 48, 3) := by decide +kernel
theorem dX7_find_111 : decode cX7_find 111 = .ok (.aload_n 0, 1) := by decide +kernel
theorem dX7_find_112 : decode cX7_find 112 = .ok (.getfield 31, 3) := by decide +kernel
theorem dX7_find_115 : decode cX7_find 115 = .ok (.iload_n 3, 1) := by decide +kernel
theorem dX7_find_116 : decode cX7_find 116 = .ok (.baload, 1) := by decide +kernel
theorem dX7_find_117 : decode cX7_find 117 = .ok (.ifCond .eq 39, 3) := by decide +kernel
theorem dX7_find_120 : decode cX7_find 120 = .ok (.aload_n 0, 1) := by decide +kernel
theorem dX7_find_121 : decode cX7_find 121 = .ok (.aload_n 0, 1) := by decide +kernel
theorem dX7_find_122 : decode cX7_find 122 = .ok (.getfield 7, 3) := by decide +kernel
theorem dX7_find_125 : decode cX7_find 125 = .ok (.bipush 6, 2) := by decide +kernel
theorem dX7_find_127 : decode cX7_find 127 = .ok (.iload_n 2, 1) := by decide +kernel
theorem dX7_find_128 : decode cX7_find 128 = .ok (.iadd, 1) := by decide +kernel
theorem dX7_find_129 : decode cX7_find 129 = .ok (.iaload, 1) := by decide +kernel
theorem dX7_find_130 : decode cX7_find 130 = .ok (.iload_n 1, 1) := by decide +kernel
theorem dX7_find_131 : decode cX7_find 131 = .ok (.iconst 1, 1) := by decide +kernel
theorem dX7_find_132 : decode cX7_find 132 = .ok (.isub, 1) := by decide +kernel
theorem dX7_find_133 : decode cX7_find 133 = .ok (.iload_n 1, 1) := by decide +kernel
theorem dX7_find_134 : decode cX7_find 134 = .ok (.invokevirtual 129, 3) := by decide +kernel
theorem dX7_find_137 : decode cX7_find 137 = .ok (.fstore 5, 2) := by decide +kernel
theorem dX7_find_139 : decode cX7_find 139 = .ok (.aload_n 0, 1) := by decide +kernel
theorem dX7_find_140 : decode cX7_find 140 = .ok (.getfield 23, 3) := by decide +kernel
theorem dX7_find_143 : decode cX7_find 143 = .ok (.iload_n 3, 1) := by decide +kernel
theorem dX7_find_144 : decode cX7_find 144 = .ok (.aload_n 0, 1) := by decide +kernel
theorem dX7_find_145 : decode cX7_find 145 = .ok (.getfield 23, 3) := by decide +kernel
theorem dX7_find_148 : decode cX7_find 148 = .ok (.iload_n 3, 1) := by decide +kernel
theorem dX7_find_149 : decode cX7_find 149 = .ok (.iconst 1, 1) := by decide +kernel
theorem dX7_find_150 : decode cX7_find 150 = .ok (.isub, 1) := by decide +kernel
theorem dX7_find_151 : decode cX7_find 151 = .ok (.faload, 1) := by decide +kernel
theorem dX7_find_152 : decode cX7_find 152 = .ok (.fload 5, 2) := by decide +kernel
theorem dX7_find_154 : decode cX7_find 154 = .ok (.fmul, 1) := by decide +kernel
theorem dX7_find_155 : decode cX7_find 155 = .ok (.fastore, 1) := by decide +kernel
theorem dX7_find_156 : decode cX7_find 156 = .ok (.iinc 2 1, 3) := by decide +kernel
theorem dX7_find_159 : decode cX7_find 159 = .ok (.goto (-149), 3) := by decide +kernel
theorem dX7_find_162 : decode cX7_find 162 = .ok (.iinc 1 1, 3) := by decide +kernel
theorem dX7_find_165 : decode cX7_find 165 = .ok (.goto (-163), 3) := by decide +kernel
theorem dX7_find_168 : decode cX7_find 168 = .ok (.return_, 1) := by decide +kernel
set_option maxRecDepth 20000 in
theorem ggX7_knownPriceBits_X7_isItem : GoodIn wsX7_knownPriceBits wsX7_isItem := goodIn_r _ [7, 8, 9, 10, 6, 11, 75, 76, 77, 78, 79, 80, 81, 82, 83, 84, 85, 86, 87, 88, 89] (by decide +kernel) (by decide +kernel)
set_option maxRecDepth 20000 in
theorem gX7_knownPriceBits_X7_isItem : GoodIn wsX7_knownPriceBits (wsV RX7 49 RX7 yX7_isItem wsX7_isItem) := goodIn_app (goodIn_of _ (by decide +kernel)) ggX7_knownPriceBits_X7_isItem
set_option maxRecDepth 20000 in
theorem ggX7_knownPriceBits_X7_isMonth : GoodIn wsX7_knownPriceBits wsX7_isMonth := goodIn_r _ [14, 9, 10, 6, 11] (by decide +kernel) (by decide +kernel)
set_option maxRecDepth 20000 in
theorem gX7_knownPriceBits_X7_isMonth : GoodIn wsX7_knownPriceBits (va_wsS RX7 52 yX7_isMonth wsX7_isMonth) := goodIn_app (goodIn_of _ (by decide +kernel)) ggX7_knownPriceBits_X7_isMonth
set_option maxRecDepth 20000 in
theorem ggX7_knownPriceBits_X7_find : GoodIn wsX7_knownPriceBits wsX7_find := goodIn_r _ [18, 8, 19, 1, 2, 20, 21, 22, 6, 23, 24, 25, 26, 27, 28, 29, 30, 31, 32, 33, 34, 35, 36, 37, 38, 39, 40, 41, 42, 43, 44, 45, 46, 47, 48, 49, 50, 51, 52, 53, 54, 55, 56, 57, 58, 59, 60, 61, 62, 75, 76, 77, 78, 79, 80, 81, 82, 83, 84, 85, 86, 87, 88, 89] (by decide +kernel) (by decide +kernel)
set_option maxRecDepth 20000 in
theorem gX7_knownPriceBits_X7_find : GoodIn wsX7_knownPriceBits (wsV RX7 133 RX7 yX7_find wsX7_find) := goodIn_app (goodIn_of _ (by decide +kernel)) ggX7_knownPriceBits_X7_find
set_option maxRecDepth 20000 in
theorem ggX7_knownPriceBits_Jxf58ca_floatToIntBits_5c35a : GoodIn wsX7_knownPriceBits wsJxf58ca_floatToIntBits_5c35a := goodIn_r _ [66, 67, 68, 69, 70, 71, 72, 73, 65, 74] (by decide +kernel) (by decide +kernel)
set_option maxRecDepth 20000 in
theorem gX7_knownPriceBits_Jxf58ca_floatToIntBits_5c35a : GoodIn wsX7_knownPriceBits (va_wsS RX7 136 yJxf58ca_floatToIntBits_5c35a wsJxf58ca_floatToIntBits_5c35a) := goodIn_app (goodIn_of _ (by decide +kernel)) ggX7_knownPriceBits_Jxf58ca_floatToIntBits_5c35a
theorem dX7_knownPriceBits_0 : decode cX7_knownPriceBits 0 = .ok (.aload_n 0, 1) := by decide +kernel
theorem dX7_knownPriceBits_1 : decode cX7_knownPriceBits 1 = .ok (.iload_n 1, 1) := by decide +kernel
theorem dX7_knownPriceBits_2 : decode cX7_knownPriceBits 2 = .ok (.invokevirtual 49, 3) := by decide +kernel
theorem dX7_knownPriceBits_5 : decode cX7_knownPriceBits 5 = .ok (.ifCond .eq 10, 3) := by decide +kernel
theorem dX7_knownPriceBits_8 : decode cX7_knownPriceBits 8 = .ok (.iload_n 2, 1) := by decide +kernel
theorem dX7_knownPriceBits_9 : decode cX7_knownPriceBits 9 = .ok (.invokestatic 52, 3) := by decide +kernel
theorem dX7_knownPriceBits_12 : decode cX7_knownPriceBits 12 = .ok (.ifCond .ne 5, 3) := by decide +kernel
theorem dX7_knownPriceBits_15 : decode cX7_knownPriceBits 15 = .ok (.iconst (-1), 1) := by decide +kernel
theorem dX7_knownPriceBits_16 : decode cX7_knownPriceBits 16 = .ok (.ireturn, 1) := by decide +kernel
theorem dX7_knownPriceBits_17 : decode cX7_knownPriceBits 17 = .ok (.aload_n 0, 1) := by decide +kernel
theorem dX7_knownPriceBits_18 : decode cX7_knownPriceBits 18 = .ok (.invokevirtual 133, 3) := by decide +kernel
theorem dX7_knownPriceBits_21 : decode cX7_knownPriceBits 21 = .ok (.aload_n 0, 1) := by decide +kernel
theorem dX7_knownPriceBits_22 : decode cX7_knownPriceBits 22 = .ok (.getfield 27, 3) := by decide +kernel
theorem dX7_knownPriceBits_25 : decode cX7_knownPriceBits 25 = .ok (.bipush 24, 2) := by decide +kernel
theorem dX7_knownPriceBits_27 : decode cX7_knownPriceBits 27 = .ok (.iload_n 1, 1) := by decide +kernel
theorem dX7_knownPriceBits_28 : decode cX7_knownPriceBits 28 = .ok (.imul, 1) := by decide +kernel
theorem dX7_knownPriceBits_29 : decode cX7_knownPriceBits 29 = .ok (.iload_n 2, 1) := by decide +kernel
theorem dX7_knownPriceBits_30 : decode cX7_knownPriceBits 30 = .ok (.iadd, 1) := by decide +kernel
theorem dX7_knownPriceBits_31 : decode cX7_knownPriceBits 31 = .ok (.baload, 1) := by decide +kernel
theorem dX7_knownPriceBits_32 : decode cX7_knownPriceBits 32 = .ok (.ifCond .eq 20, 3) := by decide +kernel
theorem dX7_knownPriceBits_35 : decode cX7_knownPriceBits 35 = .ok (.aload_n 0, 1) := by decide +kernel
theorem dX7_knownPriceBits_36 : decode cX7_knownPriceBits 36 = .ok (.getfield 23, 3) := by decide +kernel
theorem dX7_knownPriceBits_39 : decode cX7_knownPriceBits 39 = .ok (.bipush 24, 2) := by decide +kernel
theorem dX7_knownPriceBits_41 : decode cX7_knownPriceBits 41 = .ok (.iload_n 1, 1) := by decide +kernel
theorem dX7_knownPriceBits_42 : decode cX7_knownPriceBits 42 = .ok (.imul, 1) := by decide +kernel
theorem dX7_knownPriceBits_43 : decode cX7_knownPriceBits 43 = .ok (.iload_n 2, 1) := by decide +kernel
theorem dX7_knownPriceBits_44 : decode cX7_knownPriceBits 44 = .ok (.iadd, 1) := by decide +kernel
theorem dX7_knownPriceBits_45 : decode cX7_knownPriceBits 45 = .ok (.faload, 1) := by decide +kernel
theorem dX7_knownPriceBits_46 : decode cX7_knownPriceBits 46 = .ok (.invokestatic 136, 3) := by decide +kernel
theorem dX7_knownPriceBits_49 : decode cX7_knownPriceBits 49 = .ok (.goto 5, 3) := by decide +kernel
theorem dX7_knownPriceBits_52 : decode cX7_knownPriceBits 52 = .ok (.bipush (-9), 2) := by decide +kernel
theorem dX7_knownPriceBits_54 : decode cX7_knownPriceBits 54 = .ok (.ireturn, 1) := by decide +kernel
set_option maxRecDepth 20000 in
theorem ggX7_isImputed_X7_isItem : GoodIn wsX7_isImputed wsX7_isItem := goodIn_r _ [7, 8, 9, 10, 6, 11, 63, 64, 65, 66, 67, 68, 69, 70, 71, 72, 73, 74, 75, 76, 77] (by decide +kernel) (by decide +kernel)
set_option maxRecDepth 20000 in
theorem gX7_isImputed_X7_isItem : GoodIn wsX7_isImputed (wsV RX7 49 RX7 yX7_isItem wsX7_isItem) := goodIn_app (goodIn_of _ (by decide +kernel)) ggX7_isImputed_X7_isItem
set_option maxRecDepth 20000 in
theorem ggX7_isImputed_X7_isMonth : GoodIn wsX7_isImputed wsX7_isMonth := goodIn_r _ [14, 9, 10, 6, 11] (by decide +kernel) (by decide +kernel)
set_option maxRecDepth 20000 in
theorem gX7_isImputed_X7_isMonth : GoodIn wsX7_isImputed (va_wsS RX7 52 yX7_isMonth wsX7_isMonth) := goodIn_app (goodIn_of _ (by decide +kernel)) ggX7_isImputed_X7_isMonth
set_option maxRecDepth 20000 in
theorem ggX7_isImputed_X7_find : GoodIn wsX7_isImputed wsX7_find := goodIn_r _ [18, 8, 2, 1, 19, 20, 21, 22, 6, 23, 24, 25, 26, 27, 28, 29, 30, 31, 32, 33, 34, 35, 36, 37, 38, 39, 40, 41, 42, 43, 44, 45, 46, 47, 48, 49, 50, 51, 52, 53, 54, 55, 56, 57, 58, 59, 60, 61, 62, 63, 64, 65, 66, 67, 68, 69, 70, 71, 72, 73, 74, 75, 76, 77] (by decide +kernel) (by decide +kernel)
set_option maxRecDepth 20000 in
theorem gX7_isImputed_X7_find : GoodIn wsX7_isImputed (wsV RX7 133 RX7 yX7_find wsX7_find) := goodIn_app (goodIn_of _ (by decide +kernel)) ggX7_isImputed_X7_find
theorem dX7_isImputed_0 : decode cX7_isImputed 0 = .ok (.aload_n 0, 1) := by decide +kernel
theorem dX7_isImputed_1 : decode cX7_isImputed 1 = .ok (.iload_n 1, 1) := by decide +kernel
theorem dX7_isImputed_2 : decode cX7_isImputed 2 = .ok (.invokevirtual 49, 3) := by decide +kernel
theorem dX7_isImputed_5 : decode cX7_isImputed 5 = .ok (.ifCond .eq 10, 3) := by decide +kernel
theorem dX7_isImputed_8 : decode cX7_isImputed 8 = .ok (.iload_n 2, 1) := by decide +kernel
theorem dX7_isImputed_9 : decode cX7_isImputed 9 = .ok (.invokestatic 52, 3) := by decide +kernel
theorem dX7_isImputed_12 : decode cX7_isImputed 12 = .ok (.ifCond .ne 5, 3) := by decide +kernel
theorem dX7_isImputed_15 : decode cX7_isImputed 15 = .ok (.iconst (-1), 1) := by decide +kernel
theorem dX7_isImputed_16 : decode cX7_isImputed 16 = .ok (.ireturn, 1) := by decide +kernel
theorem dX7_isImputed_17 : decode cX7_isImputed 17 = .ok (.aload_n 0, 1) := by decide +kernel
theorem dX7_isImputed_18 : decode cX7_isImputed 18 = .ok (.invokevirtual 133, 3) := by decide +kernel
theorem dX7_isImputed_21 : decode cX7_isImputed 21 = .ok (.aload_n 0, 1) := by decide +kernel
theorem dX7_isImputed_22 : decode cX7_isImputed 22 = .ok (.getfield 27, 3) := by decide +kernel
theorem dX7_isImputed_25 : decode cX7_isImputed 25 = .ok (.bipush 24, 2) := by decide +kernel
theorem dX7_isImputed_27 : decode cX7_isImputed 27 = .ok (.iload_n 1, 1) := by decide +kernel
theorem dX7_isImputed_28 : decode cX7_isImputed 28 = .ok (.imul, 1) := by decide +kernel
theorem dX7_isImputed_29 : decode cX7_isImputed 29 = .ok (.iload_n 2, 1) := by decide +kernel
theorem dX7_isImputed_30 : decode cX7_isImputed 30 = .ok (.iadd, 1) := by decide +kernel
theorem dX7_isImputed_31 : decode cX7_isImputed 31 = .ok (.baload, 1) := by decide +kernel
theorem dX7_isImputed_32 : decode cX7_isImputed 32 = .ok (.ifCond .ne 8, 3) := by decide +kernel
theorem dX7_isImputed_35 : decode cX7_isImputed 35 = .ok (.bipush (-9), 2) := by decide +kernel
theorem dX7_isImputed_37 : decode cX7_isImputed 37 = .ok (.goto 22, 3) := by decide +kernel
theorem dX7_isImputed_40 : decode cX7_isImputed 40 = .ok (.aload_n 0, 1) := by decide +kernel
theorem dX7_isImputed_41 : decode cX7_isImputed 41 = .ok (.getfield 31, 3) := by decide +kernel
theorem dX7_isImputed_44 : decode cX7_isImputed 44 = .ok (.bipush 24, 2) := by decide +kernel
theorem dX7_isImputed_46 : decode cX7_isImputed 46 = .ok (.iload_n 1, 1) := by decide +kernel
theorem dX7_isImputed_47 : decode cX7_isImputed 47 = .ok (.imul, 1) := by decide +kernel
theorem dX7_isImputed_48 : decode cX7_isImputed 48 = .ok (.iload_n 2, 1) := by decide +kernel
theorem dX7_isImputed_49 : decode cX7_isImputed 49 = .ok (.iadd, 1) := by decide +kernel
theorem dX7_isImputed_50 : decode cX7_isImputed 50 = .ok (.baload, 1) := by decide +kernel
theorem dX7_isImputed_51 : decode cX7_isImputed 51 = .ok (.ifCond .eq 7, 3) := by decide +kernel
theorem dX7_isImputed_54 : decode cX7_isImputed 54 = .ok (.iconst 1, 1) := by decide +kernel
theorem dX7_isImputed_55 : decode cX7_isImputed 55 = .ok (.goto 4, 3) := by decide +kernel
theorem dX7_isImputed_58 : decode cX7_isImputed 58 = .ok (.iconst 0, 1) := by decide +kernel
theorem dX7_isImputed_59 : decode cX7_isImputed 59 = .ok (.ireturn, 1) := by decide +kernel
set_option maxRecDepth 20000 in
theorem ggX7_imputedCount_X7_isMonth : GoodIn wsX7_imputedCount wsX7_isMonth := goodIn_r _ [6, 7, 8, 5, 9] (by decide +kernel) (by decide +kernel)
set_option maxRecDepth 20000 in
theorem gX7_imputedCount_X7_isMonth : GoodIn wsX7_imputedCount (va_wsS RX7 52 yX7_isMonth wsX7_isMonth) := goodIn_app (goodIn_of _ (by decide +kernel)) ggX7_imputedCount_X7_isMonth
set_option maxRecDepth 20000 in
theorem ggX7_imputedCount_X7_find : GoodIn wsX7_imputedCount wsX7_find := goodIn_r _ [13, 1, 2, 14, 15, 16, 17, 18, 5, 19, 20, 21, 22, 23, 24, 25, 26, 27, 28, 29, 30, 31, 32, 33, 34, 35, 36, 37, 38, 39, 40, 41, 42, 43, 44, 45, 46, 47, 48, 49, 50, 51, 52, 53, 54, 55, 56, 57, 58, 59, 60, 61, 62, 63, 64, 65, 66, 67, 68, 69, 70, 71, 72, 73] (by decide +kernel) (by decide +kernel)
set_option maxRecDepth 20000 in
theorem gX7_imputedCount_X7_find : GoodIn wsX7_imputedCount (wsV RX7 133 RX7 yX7_find wsX7_find) := goodIn_app (goodIn_of _ (by decide +kernel)) ggX7_imputedCount_X7_find
theorem dX7_imputedCount_0 : decode cX7_imputedCount 0 = .ok (.iload_n 1, 1) := by decide +kernel
theorem dX7_imputedCount_1 : decode cX7_imputedCount 1 = .ok (.invokestatic 52, 3) := by decide +kernel
theorem dX7_imputedCount_4 : decode cX7_imputedCount 4 = .ok (.ifCond .ne 5, 3) := by decide +kernel
theorem dX7_imputedCount_7 : decode cX7_imputedCount 7 = .ok (.iconst (-1), 1) := by decide +kernel
theorem dX7_imputedCount_8 : decode cX7_imputedCount 8 = .ok (.ireturn, 1) := by decide +kernel
theorem dX7_imputedCount_9 : decode cX7_imputedCount 9 = .ok (.aload_n 0, 1) := by decide +kernel
theorem dX7_imputedCount_10 : decode cX7_imputedCount 10 = .ok (.invokevirtual 133, 3) := by decide +kernel
theorem dX7_imputedCount_13 : decode cX7_imputedCount 13 = .ok (.iconst 0, 1) := by decide +kernel
theorem dX7_imputedCount_14 : decode cX7_imputedCount 14 = .ok (.istore_n 2, 1) := by decide +kernel
theorem dX7_imputedCount_15 : decode cX7_imputedCount 15 = .ok (.iconst 0, 1) := by decide +kernel
theorem dX7_imputedCount_16 : decode cX7_imputedCount 16 = .ok (.istore_n 3, 1) := by decide +kernel
theorem dX7_imputedCount_17 : decode cX7_imputedCount 17 = .ok (.iload_n 3, 1) := by decide +kernel
theorem dX7_imputedCount_18 : decode cX7_imputedCount 18 = .ok (.aload_n 0, 1) := by decide +kernel
theorem dX7_imputedCount_19 : decode cX7_imputedCount 19 = .ok (.getfield 7, 3) := by decide +kernel
theorem dX7_imputedCount_22 : decode cX7_imputedCount 22 = .ok (.iconst 5, 1) := by decide +kernel
theorem dX7_imputedCount_23 : decode cX7_imputedCount 23 = .ok (.iaload, 1) := by decide +kernel
theorem dX7_imputedCount_24 : decode cX7_imputedCount 24 = .ok (.if_icmp .ge 31, 3) := by decide +kernel
theorem dX7_imputedCount_27 : decode cX7_imputedCount 27 = .ok (.iload_n 2, 1) := by decide +kernel
theorem dX7_imputedCount_28 : decode cX7_imputedCount 28 = .ok (.aload_n 0, 1) := by decide +kernel
theorem dX7_imputedCount_29 : decode cX7_imputedCount 29 = .ok (.getfield 31, 3) := by decide +kernel
theorem dX7_imputedCount_32 : decode cX7_imputedCount 32 = .ok (.bipush 24, 2) := by decide +kernel
theorem dX7_imputedCount_34 : decode cX7_imputedCount 34 = .ok (.iload_n 3, 1) := by decide +kernel
theorem dX7_imputedCount_35 : decode cX7_imputedCount 35 = .ok (.imul, 1) := by decide +kernel
theorem dX7_imputedCount_36 : decode cX7_imputedCount 36 = .ok (.iload_n 1, 1) := by decide +kernel
theorem dX7_imputedCount_37 : decode cX7_imputedCount 37 = .ok (.iadd, 1) := by decide +kernel
theorem dX7_imputedCount_38 : decode cX7_imputedCount 38 = .ok (.baload, 1) := by decide +kernel
theorem dX7_imputedCount_39 : decode cX7_imputedCount 39 = .ok (.ifCond .eq 7, 3) := by decide +kernel
theorem dX7_imputedCount_42 : decode cX7_imputedCount 42 = .ok (.iconst 1, 1) := by decide +kernel
theorem dX7_imputedCount_43 : decode cX7_imputedCount 43 = .ok (.goto 4, 3) := by decide +kernel
theorem dX7_imputedCount_46 : decode cX7_imputedCount 46 = .ok (.iconst 0, 1) := by decide +kernel
theorem dX7_imputedCount_47 : decode cX7_imputedCount 47 = .ok (.iadd, 1) := by decide +kernel
theorem dX7_imputedCount_48 : decode cX7_imputedCount 48 = .ok (.istore_n 2, 1) := by decide +kernel
theorem dX7_imputedCount_49 : decode cX7_imputedCount 49 = .ok (.iinc 3 1, 3) := by decide +kernel
theorem dX7_imputedCount_52 : decode cX7_imputedCount 52 = .ok (.goto (-35), 3) := by decide +kernel
theorem dX7_imputedCount_55 : decode cX7_imputedCount 55 = .ok (.iload_n 2, 1) := by decide +kernel
theorem dX7_imputedCount_56 : decode cX7_imputedCount 56 = .ok (.ireturn, 1) := by decide +kernel
set_option maxRecDepth 20000 in
theorem ggX7_areThere_X7_isStratum : GoodIn wsX7_areThere wsX7_isStratum := goodIn_r _ [4, 5, 6, 3, 7] (by decide +kernel) (by decide +kernel)
set_option maxRecDepth 20000 in
theorem gX7_areThere_X7_isStratum : GoodIn wsX7_areThere (va_wsS RX7 42 yX7_isStratum wsX7_isStratum) := goodIn_app (goodIn_of _ (by decide +kernel)) ggX7_areThere_X7_isStratum
set_option maxRecDepth 20000 in
theorem ggX7_areThere_X7_isMonth : GoodIn wsX7_areThere wsX7_isMonth := goodIn_r _ [10, 5, 6, 3, 7] (by decide +kernel) (by decide +kernel)
set_option maxRecDepth 20000 in
theorem gX7_areThere_X7_isMonth : GoodIn wsX7_areThere (va_wsS RX7 52 yX7_isMonth wsX7_isMonth) := goodIn_app (goodIn_of _ (by decide +kernel)) ggX7_areThere_X7_isMonth
theorem dX7_areThere_0 : decode cX7_areThere 0 = .ok (.iload_n 0, 1) := by decide +kernel
theorem dX7_areThere_1 : decode cX7_areThere 1 = .ok (.invokestatic 42, 3) := by decide +kernel
theorem dX7_areThere_4 : decode cX7_areThere 4 = .ok (.ifCond .eq 21, 3) := by decide +kernel
theorem dX7_areThere_7 : decode cX7_areThere 7 = .ok (.iload_n 1, 1) := by decide +kernel
theorem dX7_areThere_8 : decode cX7_areThere 8 = .ok (.invokestatic 52, 3) := by decide +kernel
theorem dX7_areThere_11 : decode cX7_areThere 11 = .ok (.ifCond .eq 14, 3) := by decide +kernel
theorem dX7_areThere_14 : decode cX7_areThere 14 = .ok (.iload_n 2, 1) := by decide +kernel
theorem dX7_areThere_15 : decode cX7_areThere 15 = .ok (.invokestatic 52, 3) := by decide +kernel
theorem dX7_areThere_18 : decode cX7_areThere 18 = .ok (.ifCond .eq 7, 3) := by decide +kernel
theorem dX7_areThere_21 : decode cX7_areThere 21 = .ok (.iconst 1, 1) := by decide +kernel
theorem dX7_areThere_22 : decode cX7_areThere 22 = .ok (.goto 4, 3) := by decide +kernel
theorem dX7_areThere_25 : decode cX7_areThere 25 = .ok (.iconst 0, 1) := by decide +kernel
theorem dX7_areThere_26 : decode cX7_areThere 26 = .ok (.ireturn, 1) := by decide +kernel
set_option maxRecDepth 20000 in
theorem ggX7_matchedCount_X7_areThere : GoodIn wsX7_matchedCount wsX7_areThere := goodIn_r _ [5, 6, 7, 4, 8, 9, 10, 11, 12, 13, 14] (by decide +kernel) (by decide +kernel)
set_option maxRecDepth 20000 in
theorem gX7_matchedCount_X7_areThere : GoodIn wsX7_matchedCount (va_wsS RX7 142 yX7_areThere wsX7_areThere) := goodIn_app (goodIn_of _ (by decide +kernel)) ggX7_matchedCount_X7_areThere
set_option maxRecDepth 20000 in
theorem ggX7_matchedCount_X7_isMatched : GoodIn wsX7_matchedCount wsX7_isMatched := goodIn_r _ [18, 1, 19, 20, 21, 4, 22, 23, 24, 25, 26, 27, 28, 29, 30, 31, 32, 33, 34, 35, 36, 37, 38, 39, 40, 41, 42, 43, 44, 45] (by decide +kernel) (by decide +kernel)
set_option maxRecDepth 20000 in
theorem gX7_matchedCount_X7_isMatched : GoodIn wsX7_matchedCount (wsV RX7 114 RX7 yX7_isMatched wsX7_isMatched) := goodIn_app (goodIn_of _ (by decide +kernel)) ggX7_matchedCount_X7_isMatched
theorem dX7_matchedCount_0 : decode cX7_matchedCount 0 = .ok (.iload_n 1, 1) := by decide +kernel
theorem dX7_matchedCount_1 : decode cX7_matchedCount 1 = .ok (.iload_n 2, 1) := by decide +kernel
theorem dX7_matchedCount_2 : decode cX7_matchedCount 2 = .ok (.iload_n 3, 1) := by decide +kernel
theorem dX7_matchedCount_3 : decode cX7_matchedCount 3 = .ok (.invokestatic 142, 3) := by decide +kernel
theorem dX7_matchedCount_6 : decode cX7_matchedCount 6 = .ok (.ifCond .ne 5, 3) := by decide +kernel
theorem dX7_matchedCount_9 : decode cX7_matchedCount 9 = .ok (.iconst (-1), 1) := by decide +kernel
theorem dX7_matchedCount_10 : decode cX7_matchedCount 10 = .ok (.ireturn, 1) := by decide +kernel
theorem dX7_matchedCount_11 : decode cX7_matchedCount 11 = .ok (.iconst 0, 1) := by decide +kernel
theorem dX7_matchedCount_12 : decode cX7_matchedCount 12 = .ok (.istore 4, 2) := by decide +kernel
theorem dX7_matchedCount_14 : decode cX7_matchedCount 14 = .ok (.iconst 0, 1) := by decide +kernel
theorem dX7_matchedCount_15 : decode cX7_matchedCount 15 = .ok (.istore 5, 2) := by decide +kernel
theorem dX7_matchedCount_17 : decode cX7_matchedCount 17 = .ok (.iload 5, 2) := by decide +kernel
theorem dX7_matchedCount_19 : decode cX7_matchedCount 19 = .ok (.aload_n 0, 1) := by decide +kernel
theorem dX7_matchedCount_20 : decode cX7_matchedCount 20 = .ok (.getfield 7, 3) := by decide +kernel
theorem dX7_matchedCount_23 : decode cX7_matchedCount 23 = .ok (.iconst 5, 1) := by decide +kernel
theorem dX7_matchedCount_24 : decode cX7_matchedCount 24 = .ok (.iaload, 1) := by decide +kernel
theorem dX7_matchedCount_25 : decode cX7_matchedCount 25 = .ok (.if_icmp .ge 31, 3) := by decide +kernel
theorem dX7_matchedCount_28 : decode cX7_matchedCount 28 = .ok (.iload 4, 2) := by decide +kernel
theorem dX7_matchedCount_30 : decode cX7_matchedCount 30 = .ok (.aload_n 0, 1) := by decide +kernel
theorem dX7_matchedCount_31 : decode cX7_matchedCount 31 = .ok (.iload 5, 2) := by decide +kernel
theorem dX7_matchedCount_33 : decode cX7_matchedCount 33 = .ok (.iload_n 1, 1) := by decide +kernel
theorem dX7_matchedCount_34 : decode cX7_matchedCount 34 = .ok (.iload_n 2, 1) := by decide +kernel
theorem dX7_matchedCount_35 : decode cX7_matchedCount 35 = .ok (.iload_n 3, 1) := by decide +kernel
theorem dX7_matchedCount_36 : decode cX7_matchedCount 36 = .ok (.invokevirtual 114, 3) := by decide +kernel
theorem dX7_matchedCount_39 : decode cX7_matchedCount 39 = .ok (.ifCond .eq 7, 3) := by decide +kernel
theorem dX7_matchedCount_42 : decode cX7_matchedCount 42 = .ok (.iconst 1, 1) := by decide +kernel
theorem dX7_matchedCount_43 : decode cX7_matchedCount 43 = .ok (.goto 4, 3) := by decide +kernel
theorem dX7_matchedCount_46 : decode cX7_matchedCount 46 = .ok (.iconst 0, 1) := by decide +kernel
theorem dX7_matchedCount_47 : decode cX7_matchedCount 47 = .ok (.iadd, 1) := by decide +kernel
theorem dX7_matchedCount_48 : decode cX7_matchedCount 48 = .ok (.istore 4, 2) := by decide +kernel
theorem dX7_matchedCount_50 : decode cX7_matchedCount 50 = .ok (.iinc 5 1, 3) := by decide +kernel
theorem dX7_matchedCount_53 : decode cX7_matchedCount 53 = .ok (.goto (-36), 3) := by decide +kernel
theorem dX7_matchedCount_56 : decode cX7_matchedCount 56 = .ok (.iload 4, 2) := by decide +kernel
theorem dX7_matchedCount_58 : decode cX7_matchedCount 58 = .ok (.ireturn, 1) := by decide +kernel
set_option maxRecDepth 20000 in
theorem ggX7_movementBits_X7_areThere : GoodIn wsX7_movementBits wsX7_areThere := goodIn_r _ [4, 5, 6, 3, 7, 8, 9, 10, 11, 12, 13] (by decide +kernel) (by decide +kernel)
set_option maxRecDepth 20000 in
theorem gX7_movementBits_X7_areThere : GoodIn wsX7_movementBits (va_wsS RX7 142 yX7_areThere wsX7_areThere) := goodIn_app (goodIn_of _ (by decide +kernel)) ggX7_movementBits_X7_areThere
set_option maxRecDepth 20000 in
theorem ggX7_movementBits_X7_movement : GoodIn wsX7_movementBits wsX7_movement := goodIn_r _ [17, 18, 19, 20, 21, 22, 3, 23, 24, 25, 26, 27, 28, 29, 30, 31, 32, 33, 34, 35, 36, 37, 38, 39, 40, 41, 42, 43, 44, 45, 46, 47, 48, 49, 50, 51, 52, 53, 54, 55, 56, 57, 70, 71, 72, 73, 74, 75, 76, 77, 78, 79, 80, 81, 82, 83, 84] (by decide +kernel) (by decide +kernel)
set_option maxRecDepth 20000 in
theorem gX7_movementBits_X7_movement : GoodIn wsX7_movementBits (wsV RX7 129 RX7 yX7_movement wsX7_movement) := goodIn_app (goodIn_of _ (by decide +kernel)) ggX7_movementBits_X7_movement
set_option maxRecDepth 20000 in
theorem ggX7_movementBits_Jxf58ca_floatToIntBits_5c35a : GoodIn wsX7_movementBits wsJxf58ca_floatToIntBits_5c35a := goodIn_r _ [61, 62, 63, 64, 65, 66, 67, 68, 60, 69] (by decide +kernel) (by decide +kernel)
set_option maxRecDepth 20000 in
theorem gX7_movementBits_Jxf58ca_floatToIntBits_5c35a : GoodIn wsX7_movementBits (va_wsS RX7 136 yJxf58ca_floatToIntBits_5c35a wsJxf58ca_floatToIntBits_5c35a) := goodIn_app (goodIn_of _ (by decide +kernel)) ggX7_movementBits_Jxf58ca_floatToIntBits_5c35a
theorem dX7_movementBits_0 : decode cX7_movementBits 0 = .ok (.iload_n 1, 1) := by decide +kernel
theorem dX7_movementBits_1 : decode cX7_movementBits 1 = .ok (.iload_n 2, 1) := by decide +kernel
theorem dX7_movementBits_2 : decode cX7_movementBits 2 = .ok (.iload_n 3, 1) := by decide +kernel
theorem dX7_movementBits_3 : decode cX7_movementBits 3 = .ok (.invokestatic 142, 3) := by decide +kernel
theorem dX7_movementBits_6 : decode cX7_movementBits 6 = .ok (.ifCond .eq 16, 3) := by decide +kernel
theorem dX7_movementBits_9 : decode cX7_movementBits 9 = .ok (.aload_n 0, 1) := by decide +kernel
theorem dX7_movementBits_10 : decode cX7_movementBits 10 = .ok (.iload_n 1, 1) := by decide +kernel
theorem dX7_movementBits_11 : decode cX7_movementBits 11 = .ok (.iload_n 2, 1) := by decide +kernel
theorem dX7_movementBits_12 : decode cX7_movementBits 12 = .ok (.iload_n 3, 1) := by decide +kernel
theorem dX7_movementBits_13 : decode cX7_movementBits 13 = .ok (.invokevirtual 129, 3) := by decide +kernel
theorem dX7_movementBits_16 : decode cX7_movementBits 16 = .ok (.invokestatic 136, 3) := by decide +kernel
theorem dX7_movementBits_19 : decode cX7_movementBits 19 = .ok (.goto 4, 3) := by decide +kernel
theorem dX7_movementBits_22 : decode cX7_movementBits 22 = .ok (.iconst (-1), 1) := by decide +kernel
theorem dX7_movementBits_23 : decode cX7_movementBits 23 = .ok (.ireturn, 1) := by decide +kernel
set_option maxRecDepth 20000 in
theorem ggX7_greatestRise_X7_areThere : GoodIn wsX7_greatestRise wsX7_areThere := goodIn_r _ [5, 6, 7, 4, 8, 9, 10, 11, 12, 13, 14] (by decide +kernel) (by decide +kernel)
set_option maxRecDepth 20000 in
theorem gX7_greatestRise_X7_areThere : GoodIn wsX7_greatestRise (va_wsS RX7 142 yX7_areThere wsX7_areThere) := goodIn_app (goodIn_of _ (by decide +kernel)) ggX7_greatestRise_X7_areThere
set_option maxRecDepth 20000 in
theorem ggX7_greatestRise_X7_isMatched : GoodIn wsX7_greatestRise wsX7_isMatched := goodIn_r _ [18, 1, 19, 20, 21, 4, 22, 23, 24, 25, 26, 27, 28, 29, 30, 39, 40, 41, 42, 43, 44, 45, 46, 47, 48, 49, 50, 51, 52, 53] (by decide +kernel) (by decide +kernel)
set_option maxRecDepth 20000 in
theorem gX7_greatestRise_X7_isMatched : GoodIn wsX7_greatestRise (wsV RX7 114 RX7 yX7_isMatched wsX7_isMatched) := goodIn_app (goodIn_of _ (by decide +kernel)) ggX7_greatestRise_X7_isMatched
set_option maxRecDepth 20000 in
theorem ggX7_greatestRise_X7_effective : GoodIn wsX7_greatestRise wsX7_effective := goodIn_r _ [34, 1, 35, 36, 37, 4, 38, 39, 40, 41, 42, 43, 44, 45, 46, 47, 48, 49, 50, 51, 52, 53] (by decide +kernel) (by decide +kernel)
set_option maxRecDepth 20000 in
theorem gX7_greatestRise_X7_effective : GoodIn wsX7_greatestRise (wsV RX7 118 RX7 yX7_effective wsX7_effective) := goodIn_app (goodIn_of _ (by decide +kernel)) ggX7_greatestRise_X7_effective
theorem dX7_greatestRise_0 : decode cX7_greatestRise 0 = .ok (.iload_n 1, 1) := by decide +kernel
theorem dX7_greatestRise_1 : decode cX7_greatestRise 1 = .ok (.iload_n 2, 1) := by decide +kernel
theorem dX7_greatestRise_2 : decode cX7_greatestRise 2 = .ok (.iload_n 3, 1) := by decide +kernel
theorem dX7_greatestRise_3 : decode cX7_greatestRise 3 = .ok (.invokestatic 142, 3) := by decide +kernel
theorem dX7_greatestRise_6 : decode cX7_greatestRise 6 = .ok (.ifCond .ne 5, 3) := by decide +kernel
theorem dX7_greatestRise_9 : decode cX7_greatestRise 9 = .ok (.iconst (-1), 1) := by decide +kernel
theorem dX7_greatestRise_10 : decode cX7_greatestRise 10 = .ok (.ireturn, 1) := by decide +kernel
theorem dX7_greatestRise_11 : decode cX7_greatestRise 11 = .ok (.bipush (-9), 2) := by decide +kernel
theorem dX7_greatestRise_13 : decode cX7_greatestRise 13 = .ok (.istore 4, 2) := by decide +kernel
theorem dX7_greatestRise_15 : decode cX7_greatestRise 15 = .ok (.fconst 0, 1) := by decide +kernel
theorem dX7_greatestRise_16 : decode cX7_greatestRise 16 = .ok (.fstore 5, 2) := by decide +kernel
theorem dX7_greatestRise_18 : decode cX7_greatestRise 18 = .ok (.iconst 0, 1) := by decide +kernel
theorem dX7_greatestRise_19 : decode cX7_greatestRise 19 = .ok (.istore 6, 2) := by decide +kernel
theorem dX7_greatestRise_21 : decode cX7_greatestRise 21 = .ok (.iload 6, 2) := by decide +kernel
theorem dX7_greatestRise_23 : decode cX7_greatestRise 23 = .ok (.aload_n 0, 1) := by decide +kernel
theorem dX7_greatestRise_24 : decode cX7_greatestRise 24 = .ok (.getfield 7, 3) := by decide +kernel
theorem dX7_greatestRise_27 : decode cX7_greatestRise 27 = .ok (.iconst 5, 1) := by decide +kernel
theorem dX7_greatestRise_28 : decode cX7_greatestRise 28 = .ok (.iaload, 1) := by decide +kernel
theorem dX7_greatestRise_29 : decode cX7_greatestRise 29 = .ok (.if_icmp .ge 88, 3) := by decide +kernel
theorem dX7_greatestRise_32 : decode cX7_greatestRise 32 = .ok (.aload_n 0, 1) := by decide +kernel
theorem dX7_greatestRise_33 : decode cX7_greatestRise 33 = .ok (.iload 6, 2) := by decide +kernel
theorem dX7_greatestRise_35 : decode cX7_greatestRise 35 = .ok (.iload_n 1, 1) := by decide +kernel
theorem dX7_greatestRise_36 : decode cX7_greatestRise 36 = .ok (.iload_n 2, 1) := by decide +kernel
theorem dX7_greatestRise_37 : decode cX7_greatestRise 37 = .ok (.iload_n 3, 1) := by decide +kernel
theorem dX7_greatestRise_38 : decode cX7_greatestRise 38 = .ok (.invokevirtual 114, 3) := by decide +kernel
theorem dX7_greatestRise_41 : decode cX7_greatestRise 41 = .ok (.ifCond .eq 70, 3) := by decide +kernel
theorem dX7_greatestRise_44 : decode cX7_greatestRise 44 = .ok (.aload_n 0, 1) := by decide +kernel
theorem dX7_greatestRise_45 : decode cX7_greatestRise 45 = .ok (.iload 6, 2) := by decide +kernel
theorem dX7_greatestRise_47 : decode cX7_greatestRise 47 = .ok (.iload_n 3, 1) := by decide +kernel
theorem dX7_greatestRise_48 : decode cX7_greatestRise 48 = .ok (.invokevirtual 118, 3) := by decide +kernel
theorem dX7_greatestRise_51 : decode cX7_greatestRise 51 = .ok (.aload_n 0, 1) := by decide +kernel
theorem dX7_greatestRise_52 : decode cX7_greatestRise 52 = .ok (.iload 6, 2) := by decide +kernel
theorem dX7_greatestRise_54 : decode cX7_greatestRise 54 = .ok (.iload_n 2, 1) := by decide +kernel
theorem dX7_greatestRise_55 : decode cX7_greatestRise 55 = .ok (.invokevirtual 118, 3) := by decide +kernel
theorem dX7_greatestRise_58 : decode cX7_greatestRise 58 = .ok (.fdiv, 1) := by decide +kernel
theorem dX7_greatestRise_59 : decode cX7_greatestRise 59 = .ok (.fstore 7, 2) := by decide +kernel
theorem dX7_greatestRise_61 : decode cX7_greatestRise 61 = .ok (.iload 4, 2) := by decide +kernel
theorem dX7_greatestRise_63 : decode cX7_greatestRise 63 = .ok (.bipush (-9), 2) := by decide +kernel
theorem dX7_greatestRise_65 : decode cX7_greatestRise 65 = .ok (.if_icmp .eq 11, 3) := by decide +kernel
theorem dX7_greatestRise_68 : decode cX7_greatestRise 68 = .ok (.fload 7, 2) := by decide +kernel
theorem dX7_greatestRise_70 : decode cX7_greatestRise 70 = .ok (.fload 5, 2) := by decide +kernel
theorem dX7_greatestRise_72 : decode cX7_greatestRise 72 = .ok (.fcmp .l, 1) := by decide +kernel
theorem dX7_greatestRise_73 : decode cX7_greatestRise 73 = .ok (.ifCond .le 7, 3) := by decide +kernel
theorem dX7_greatestRise_76 : decode cX7_greatestRise 76 = .ok (.iconst 1, 1) := by decide +kernel
theorem dX7_greatestRise_77 : decode cX7_greatestRise 77 = .ok (.goto 4, 3) := by decide +kernel
theorem dX7_greatestRise_80 : decode cX7_greatestRise 80 = .ok (.iconst 0, 1) := by decide +kernel
theorem dX7_greatestRise_81 : decode cX7_greatestRise 81 = .ok (.istore 8, 2) := by decide +kernel
theorem dX7_greatestRise_83 : decode cX7_greatestRise 83 = .ok (.iload 8, 2) := by decide +kernel
theorem dX7_greatestRise_85 : decode cX7_greatestRise 85 = .ok (.ifCond .eq 8, 3) := by decide +kernel
theorem dX7_greatestRise_88 : decode cX7_greatestRise 88 = .ok (.iload 6, 2) := by decide +kernel
theorem dX7_greatestRise_90 : decode cX7_greatestRise 90 = .ok (.goto 5, 3) := by decide +kernel
theorem dX7_greatestRise_93 : decode cX7_greatestRise 93 = .ok (.iload 4, 2) := by decide +kernel
theorem dX7_greatestRise_95 : decode cX7_greatestRise 95 = .ok (.istore 4, 2) := by decide +kernel
theorem dX7_greatestRise_97 : decode cX7_greatestRise 97 = .ok (.iload 8, 2) := by decide +kernel
theorem dX7_greatestRise_99 : decode cX7_greatestRise 99 = .ok (.ifCond .eq 8, 3) := by decide +kernel
theorem dX7_greatestRise_102 : decode cX7_greatestRise 102 = .ok (.fload 7, 2) := by decide +kernel
theorem dX7_greatestRise_104 : decode cX7_greatestRise 104 = .ok (.goto 5, 3) := by decide +kernel
theorem dX7_greatestRise_107 : decode cX7_greatestRise 107 = .ok (.fload 5, 2) := by decide +kernel
theorem dX7_greatestRise_109 : decode cX7_greatestRise 109 = .ok (.fstore 5, 2) := by decide +kernel
theorem dX7_greatestRise_111 : decode cX7_greatestRise 111 = .ok (.iinc 6 1, 3) := by decide +kernel
theorem dX7_greatestRise_114 : decode cX7_greatestRise 114 = .ok (.goto (-93), 3) := by decide +kernel
theorem dX7_greatestRise_117 : decode cX7_greatestRise 117 = .ok (.iload 4, 2) := by decide +kernel
theorem dX7_greatestRise_119 : decode cX7_greatestRise 119 = .ok (.ireturn, 1) := by decide +kernel
theorem dX7_hundredths_0 : decode cX7_hundredths 0 = .ok (.fload_n 0, 1) := by decide +kernel
theorem dX7_hundredths_1 : decode cX7_hundredths 1 = .ok (.ldc 145, 2) := by decide +kernel
theorem dX7_hundredths_3 : decode cX7_hundredths 3 = .ok (.fmul, 1) := by decide +kernel
theorem dX7_hundredths_4 : decode cX7_hundredths 4 = .ok (.ldc 146, 2) := by decide +kernel
theorem dX7_hundredths_6 : decode cX7_hundredths 6 = .ok (.fadd, 1) := by decide +kernel
theorem dX7_hundredths_7 : decode cX7_hundredths 7 = .ok (.f2i, 1) := by decide +kernel
theorem dX7_hundredths_8 : decode cX7_hundredths 8 = .ok (.ireturn, 1) := by decide +kernel
set_option maxRecDepth 20000 in
theorem ggX7_hasDirect_X7_begin : GoodIn wsX7_hasDirect wsX7_begin := goodIn_r _ [11, 12, 13, 4, 22, 23, 24, 25, 26, 27, 28, 29, 30, 31, 32, 33, 34, 35, 36] (by decide +kernel) (by decide +kernel)
set_option maxRecDepth 20000 in
theorem gX7_hasDirect_X7_begin : GoodIn wsX7_hasDirect (wsV RX7 111 RX7 yX7_begin wsX7_begin) := goodIn_app (goodIn_of _ (by decide +kernel)) ggX7_hasDirect_X7_begin
set_option maxRecDepth 20000 in
theorem ggX7_hasDirect_X7_take : GoodIn wsX7_hasDirect wsX7_take := goodIn_r _ [17, 4, 1, 12, 13, 22, 23, 24, 25, 26, 27, 28, 29, 30, 31, 32, 33, 34, 35, 36] (by decide +kernel) (by decide +kernel)
set_option maxRecDepth 20000 in
theorem gX7_hasDirect_X7_take : GoodIn wsX7_hasDirect (wsV RX7 121 RX7 yX7_take wsX7_take) := goodIn_app (goodIn_of _ (by decide +kernel)) ggX7_hasDirect_X7_take
set_option maxRecDepth 20000 in
theorem ggX7_hasDirect_X7_result : GoodIn wsX7_hasDirect wsX7_result := goodIn_r _ [21, 1, 12, 13, 4, 22, 23, 24, 25, 26, 27, 28, 29, 30, 31, 32, 33, 34, 35, 36] (by decide +kernel) (by decide +kernel)
set_option maxRecDepth 20000 in
theorem gX7_hasDirect_X7_result : GoodIn wsX7_hasDirect (wsV RX7 125 RX7 yX7_result wsX7_result) := goodIn_app (goodIn_of _ (by decide +kernel)) ggX7_hasDirect_X7_result
theorem dX7_hasDirect_0 : decode cX7_hasDirect 0 = .ok (.aload_n 0, 1) := by decide +kernel
theorem dX7_hasDirect_1 : decode cX7_hasDirect 1 = .ok (.invokevirtual 111, 3) := by decide +kernel
theorem dX7_hasDirect_4 : decode cX7_hasDirect 4 = .ok (.iconst 0, 1) := by decide +kernel
theorem dX7_hasDirect_5 : decode cX7_hasDirect 5 = .ok (.istore 4, 2) := by decide +kernel
theorem dX7_hasDirect_7 : decode cX7_hasDirect 7 = .ok (.iload 4, 2) := by decide +kernel
theorem dX7_hasDirect_9 : decode cX7_hasDirect 9 = .ok (.aload_n 0, 1) := by decide +kernel
theorem dX7_hasDirect_10 : decode cX7_hasDirect 10 = .ok (.getfield 7, 3) := by decide +kernel
theorem dX7_hasDirect_13 : decode cX7_hasDirect 13 = .ok (.iconst 5, 1) := by decide +kernel
theorem dX7_hasDirect_14 : decode cX7_hasDirect 14 = .ok (.iaload, 1) := by decide +kernel
theorem dX7_hasDirect_15 : decode cX7_hasDirect 15 = .ok (.if_icmp .ge 81, 3) := by decide +kernel
theorem dX7_hasDirect_18 : decode cX7_hasDirect 18 = .ok (.aload_n 0, 1) := by decide +kernel
theorem dX7_hasDirect_19 : decode cX7_hasDirect 19 = .ok (.getfield 7, 3) := by decide +kernel
theorem dX7_hasDirect_22 : decode cX7_hasDirect 22 = .ok (.bipush 6, 2) := by decide +kernel
theorem dX7_hasDirect_24 : decode cX7_hasDirect 24 = .ok (.iload 4, 2) := by decide +kernel
theorem dX7_hasDirect_26 : decode cX7_hasDirect 26 = .ok (.iadd, 1) := by decide +kernel
theorem dX7_hasDirect_27 : decode cX7_hasDirect 27 = .ok (.iaload, 1) := by decide +kernel
theorem dX7_hasDirect_28 : decode cX7_hasDirect 28 = .ok (.iload_n 1, 1) := by decide +kernel
theorem dX7_hasDirect_29 : decode cX7_hasDirect 29 = .ok (.if_icmp .ne 61, 3) := by decide +kernel
theorem dX7_hasDirect_32 : decode cX7_hasDirect 32 = .ok (.aload_n 0, 1) := by decide +kernel
theorem dX7_hasDirect_33 : decode cX7_hasDirect 33 = .ok (.getfield 27, 3) := by decide +kernel
theorem dX7_hasDirect_36 : decode cX7_hasDirect 36 = .ok (.bipush 24, 2) := by decide +kernel
theorem dX7_hasDirect_38 : decode cX7_hasDirect 38 = .ok (.iload 4, 2) := by decide +kernel
theorem dX7_hasDirect_40 : decode cX7_hasDirect 40 = .ok (.imul, 1) := by decide +kernel
theorem dX7_hasDirect_41 : decode cX7_hasDirect 41 = .ok (.iload_n 2, 1) := by decide +kernel
theorem dX7_hasDirect_42 : decode cX7_hasDirect 42 = .ok (.iadd, 1) := by decide +kernel
theorem dX7_hasDirect_43 : decode cX7_hasDirect 43 = .ok (.baload, 1) := by decide +kernel
theorem dX7_hasDirect_44 : decode cX7_hasDirect 44 = .ok (.ifCond .eq 46, 3) := by decide +kernel
theorem dX7_hasDirect_47 : decode cX7_hasDirect 47 = .ok (.aload_n 0, 1) := by decide +kernel
theorem dX7_hasDirect_48 : decode cX7_hasDirect 48 = .ok (.getfield 27, 3) := by decide +kernel
theorem dX7_hasDirect_51 : decode cX7_hasDirect 51 = .ok (.bipush 24, 2) := by decide +kernel
theorem dX7_hasDirect_53 : decode cX7_hasDirect 53 = .ok (.iload 4, 2) := by decide +kernel
theorem dX7_hasDirect_55 : decode cX7_hasDirect 55 = .ok (.imul, 1) := by decide +kernel
theorem dX7_hasDirect_56 : decode cX7_hasDirect 56 = .ok (.iload_n 3, 1) := by decide +kernel
theorem dX7_hasDirect_57 : decode cX7_hasDirect 57 = .ok (.iadd, 1) := by decide +kernel
theorem dX7_hasDirect_58 : decode cX7_hasDirect 58 = .ok (.baload, 1) := by decide +kernel
theorem dX7_hasDirect_59 : decode cX7_hasDirect 59 = .ok (.ifCond .eq 31, 3) := by decide +kernel
theorem dX7_hasDirect_62 : decode cX7_hasDirect 62 = .ok (.aload_n 0, 1) := by decide +kernel
theorem dX7_hasDirect_63 : decode cX7_hasDirect 63 = .ok (.aload_n 0, 1) := by decide +kernel
theorem dX7_hasDirect_64 : decode cX7_hasDirect 64 = .ok (.getfield 23, 3) := by decide +kernel
theorem dX7_hasDirect_67 : decode cX7_hasDirect 67 = .ok (.bipush 24, 2) := by decide +kernel
theorem dX7_hasDirect_69 : decode cX7_hasDirect 69 = .ok (.iload 4, 2) := by decide +kernel
theorem dX7_hasDirect_71 : decode cX7_hasDirect 71 = .ok (.imul, 1) := by decide +kernel
theorem dX7_hasDirect_72 : decode cX7_hasDirect 72 = .ok (.iload_n 2, 1) := by decide +kernel
theorem dX7_hasDirect_73 : decode cX7_hasDirect 73 = .ok (.iadd, 1) := by decide +kernel
