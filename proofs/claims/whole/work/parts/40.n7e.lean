theorem dX7_hasDirect_74 : decode cX7_hasDirect 74 = .ok (.faload, 1) := by decide +kernel
theorem dX7_hasDirect_75 : decode cX7_hasDirect 75 = .ok (.aload_n 0, 1) := by decide +kernel
theorem dX7_hasDirect_76 : decode cX7_hasDirect 76 = .ok (.getfield 23, 3) := by decide +kernel
theorem dX7_hasDirect_79 : decode cX7_hasDirect 79 = .ok (.bipush 24, 2) := by decide +kernel
theorem dX7_hasDirect_81 : decode cX7_hasDirect 81 = .ok (.iload 4, 2) := by decide +kernel
theorem dX7_hasDirect_83 : decode cX7_hasDirect 83 = .ok (.imul, 1) := by decide +kernel
theorem dX7_hasDirect_84 : decode cX7_hasDirect 84 = .ok (.iload_n 3, 1) := by decide +kernel
theorem dX7_hasDirect_85 : decode cX7_hasDirect 85 = .ok (.iadd, 1) := by decide +kernel
theorem dX7_hasDirect_86 : decode cX7_hasDirect 86 = .ok (.faload, 1) := by decide +kernel
theorem dX7_hasDirect_87 : decode cX7_hasDirect 87 = .ok (.invokevirtual 121, 3) := by decide +kernel
theorem dX7_hasDirect_90 : decode cX7_hasDirect 90 = .ok (.iinc 4 1, 3) := by decide +kernel
theorem dX7_hasDirect_93 : decode cX7_hasDirect 93 = .ok (.goto (-86), 3) := by decide +kernel
theorem dX7_hasDirect_96 : decode cX7_hasDirect 96 = .ok (.aload_n 0, 1) := by decide +kernel
theorem dX7_hasDirect_97 : decode cX7_hasDirect 97 = .ok (.aload_n 0, 1) := by decide +kernel
theorem dX7_hasDirect_98 : decode cX7_hasDirect 98 = .ok (.getfield 105, 3) := by decide +kernel
theorem dX7_hasDirect_101 : decode cX7_hasDirect 101 = .ok (.ifCond .ne 7, 3) := by decide +kernel
theorem dX7_hasDirect_104 : decode cX7_hasDirect 104 = .ok (.fconst 0, 1) := by decide +kernel
theorem dX7_hasDirect_105 : decode cX7_hasDirect 105 = .ok (.goto 10, 3) := by decide +kernel
theorem dX7_hasDirect_108 : decode cX7_hasDirect 108 = .ok (.aload_n 0, 1) := by decide +kernel
theorem dX7_hasDirect_109 : decode cX7_hasDirect 109 = .ok (.invokevirtual 125, 3) := by decide +kernel
theorem dX7_hasDirect_112 : decode cX7_hasDirect 112 = .ok (.ldc 145, 2) := by decide +kernel
theorem dX7_hasDirect_114 : decode cX7_hasDirect 114 = .ok (.fmul, 1) := by decide +kernel
theorem dX7_hasDirect_115 : decode cX7_hasDirect 115 = .ok (.putfield 147, 3) := by decide +kernel
theorem dX7_hasDirect_118 : decode cX7_hasDirect 118 = .ok (.aload_n 0, 1) := by decide +kernel
theorem dX7_hasDirect_119 : decode cX7_hasDirect 119 = .ok (.getfield 105, 3) := by decide +kernel
theorem dX7_hasDirect_122 : decode cX7_hasDirect 122 = .ok (.ifCond .le 7, 3) := by decide +kernel
theorem dX7_hasDirect_125 : decode cX7_hasDirect 125 = .ok (.iconst 1, 1) := by decide +kernel
theorem dX7_hasDirect_126 : decode cX7_hasDirect 126 = .ok (.goto 4, 3) := by decide +kernel
theorem dX7_hasDirect_129 : decode cX7_hasDirect 129 = .ok (.iconst 0, 1) := by decide +kernel
theorem dX7_hasDirect_130 : decode cX7_hasDirect 130 = .ok (.ireturn, 1) := by decide +kernel
set_option maxRecDepth 20000 in
theorem ggX7_directIndex_X7_areThere : GoodIn wsX7_directIndex wsX7_areThere := goodIn_r _ [5, 6, 7, 4, 8, 9, 10, 11, 12, 13, 14] (by decide +kernel) (by decide +kernel)
set_option maxRecDepth 20000 in
theorem gX7_directIndex_X7_areThere : GoodIn wsX7_directIndex (va_wsS RX7 142 yX7_areThere wsX7_areThere) := goodIn_app (goodIn_of _ (by decide +kernel)) ggX7_directIndex_X7_areThere
set_option maxRecDepth 20000 in
theorem ggX7_directIndex_X7_find : GoodIn wsX7_directIndex wsX7_find := goodIn_r _ [18, 19, 20, 21, 22, 23, 24, 25, 4, 26, 27, 28, 29, 30, 31, 32, 33, 34, 35, 36, 37, 38, 39, 40, 41, 42, 43, 44, 45, 46, 47, 48, 49, 50, 51, 52, 53, 54, 55, 56, 57, 58, 59, 60, 61, 62, 63, 64, 65, 75, 76, 77, 78, 79, 80, 81, 82, 83, 84, 85, 86, 87, 88, 89] (by decide +kernel) (by decide +kernel)
set_option maxRecDepth 20000 in
theorem gX7_directIndex_X7_find : GoodIn wsX7_directIndex (wsV RX7 133 RX7 yX7_find wsX7_find) := goodIn_app (goodIn_of _ (by decide +kernel)) ggX7_directIndex_X7_find
set_option maxRecDepth 20000 in
theorem ggX7_directIndex_X7_hasDirect : GoodIn wsX7_directIndex wsX7_hasDirect := goodIn_r _ [69, 19, 21, 22, 47, 70, 1, 48, 49, 50, 4, 51, 52, 53, 58, 59, 60, 61, 62, 63, 64, 65, 75, 76, 77, 78, 79, 80, 81, 82, 83, 84, 85, 86, 87, 88, 89] (by decide +kernel) (by decide +kernel)
set_option maxRecDepth 20000 in
theorem gX7_directIndex_X7_hasDirect : GoodIn wsX7_directIndex (wsV RX7 150 RX7 yX7_hasDirect wsX7_hasDirect) := goodIn_app (goodIn_of _ (by decide +kernel)) ggX7_directIndex_X7_hasDirect
set_option maxRecDepth 20000 in
theorem ggX7_directIndex_X7_hundredths : GoodIn wsX7_directIndex wsX7_hundredths := goodIn_r _ [73, 70, 74] (by decide +kernel) (by decide +kernel)
set_option maxRecDepth 20000 in
theorem gX7_directIndex_X7_hundredths : GoodIn wsX7_directIndex (va_wsS RX7 153 yX7_hundredths wsX7_hundredths) := goodIn_app (goodIn_of _ (by decide +kernel)) ggX7_directIndex_X7_hundredths
theorem dX7_directIndex_0 : decode cX7_directIndex 0 = .ok (.iload_n 1, 1) := by decide +kernel
theorem dX7_directIndex_1 : decode cX7_directIndex 1 = .ok (.iload_n 2, 1) := by decide +kernel
theorem dX7_directIndex_2 : decode cX7_directIndex 2 = .ok (.iload_n 3, 1) := by decide +kernel
theorem dX7_directIndex_3 : decode cX7_directIndex 3 = .ok (.invokestatic 142, 3) := by decide +kernel
theorem dX7_directIndex_6 : decode cX7_directIndex 6 = .ok (.ifCond .ne 5, 3) := by decide +kernel
theorem dX7_directIndex_9 : decode cX7_directIndex 9 = .ok (.iconst (-1), 1) := by decide +kernel
theorem dX7_directIndex_10 : decode cX7_directIndex 10 = .ok (.ireturn, 1) := by decide +kernel
theorem dX7_directIndex_11 : decode cX7_directIndex 11 = .ok (.aload_n 0, 1) := by decide +kernel
theorem dX7_directIndex_12 : decode cX7_directIndex 12 = .ok (.invokevirtual 133, 3) := by decide +kernel
theorem dX7_directIndex_15 : decode cX7_directIndex 15 = .ok (.aload_n 0, 1) := by decide +kernel
theorem dX7_directIndex_16 : decode cX7_directIndex 16 = .ok (.iload_n 1, 1) := by decide +kernel
theorem dX7_directIndex_17 : decode cX7_directIndex 17 = .ok (.iload_n 2, 1) := by decide +kernel
theorem dX7_directIndex_18 : decode cX7_directIndex 18 = .ok (.iload_n 3, 1) := by decide +kernel
theorem dX7_directIndex_19 : decode cX7_directIndex 19 = .ok (.invokevirtual 150, 3) := by decide +kernel
theorem dX7_directIndex_22 : decode cX7_directIndex 22 = .ok (.ifCond .eq 13, 3) := by decide +kernel
theorem dX7_directIndex_25 : decode cX7_directIndex 25 = .ok (.aload_n 0, 1) := by decide +kernel
theorem dX7_directIndex_26 : decode cX7_directIndex 26 = .ok (.getfield 147, 3) := by decide +kernel
theorem dX7_directIndex_29 : decode cX7_directIndex 29 = .ok (.invokestatic 153, 3) := by decide +kernel
theorem dX7_directIndex_32 : decode cX7_directIndex 32 = .ok (.goto 5, 3) := by decide +kernel
theorem dX7_directIndex_35 : decode cX7_directIndex 35 = .ok (.bipush (-9), 2) := by decide +kernel
theorem dX7_directIndex_37 : decode cX7_directIndex 37 = .ok (.ireturn, 1) := by decide +kernel
set_option maxRecDepth 20000 in
theorem ggX7_chained_X7_movement : GoodIn wsX7_chained wsX7_movement := goodIn_r _ [6, 7, 8, 9, 10, 11, 5, 12, 13, 14, 15, 16, 17, 18, 19, 20, 21, 22, 23, 24, 25, 26, 27, 28, 29, 30, 31, 32, 33, 34, 35, 36, 37, 38, 39, 40, 41, 42, 43, 44, 45, 46, 47, 48, 49, 50, 51, 52, 53, 54, 55, 56, 57, 58, 59, 60, 61] (by decide +kernel) (by decide +kernel)
set_option maxRecDepth 20000 in
theorem gX7_chained_X7_movement : GoodIn wsX7_chained (wsV RX7 129 RX7 yX7_movement wsX7_movement) := goodIn_app (goodIn_of _ (by decide +kernel)) ggX7_chained_X7_movement
theorem dX7_chained_0 : decode cX7_chained 0 = .ok (.ldc 145, 2) := by decide +kernel
theorem dX7_chained_2 : decode cX7_chained 2 = .ok (.fstore 4, 2) := by decide +kernel
theorem dX7_chained_4 : decode cX7_chained 4 = .ok (.iload_n 2, 1) := by decide +kernel
theorem dX7_chained_5 : decode cX7_chained 5 = .ok (.istore 5, 2) := by decide +kernel
theorem dX7_chained_7 : decode cX7_chained 7 = .ok (.iload 5, 2) := by decide +kernel
theorem dX7_chained_9 : decode cX7_chained 9 = .ok (.iload_n 3, 1) := by decide +kernel
theorem dX7_chained_10 : decode cX7_chained 10 = .ok (.if_icmp .ge 25, 3) := by decide +kernel
theorem dX7_chained_13 : decode cX7_chained 13 = .ok (.fload 4, 2) := by decide +kernel
theorem dX7_chained_15 : decode cX7_chained 15 = .ok (.aload_n 0, 1) := by decide +kernel
theorem dX7_chained_16 : decode cX7_chained 16 = .ok (.iload_n 1, 1) := by decide +kernel
theorem dX7_chained_17 : decode cX7_chained 17 = .ok (.iload 5, 2) := by decide +kernel
theorem dX7_chained_19 : decode cX7_chained 19 = .ok (.iload 5, 2) := by decide +kernel
theorem dX7_chained_21 : decode cX7_chained 21 = .ok (.iconst 1, 1) := by decide +kernel
theorem dX7_chained_22 : decode cX7_chained 22 = .ok (.iadd, 1) := by decide +kernel
theorem dX7_chained_23 : decode cX7_chained 23 = .ok (.invokevirtual 129, 3) := by decide +kernel
theorem dX7_chained_26 : decode cX7_chained 26 = .ok (.fmul, 1) := by decide +kernel
theorem dX7_chained_27 : decode cX7_chained 27 = .ok (.fstore 4, 2) := by decide +kernel
theorem dX7_chained_29 : decode cX7_chained 29 = .ok (.iinc 5 1, 3) := by decide +kernel
theorem dX7_chained_32 : decode cX7_chained 32 = .ok (.goto (-25), 3) := by decide +kernel
theorem dX7_chained_35 : decode cX7_chained 35 = .ok (.fload 4, 2) := by decide +kernel
theorem dX7_chained_37 : decode cX7_chained 37 = .ok (.freturn, 1) := by decide +kernel
set_option maxRecDepth 20000 in
theorem ggX7_chainedIndex_X7_areThere : GoodIn wsX7_chainedIndex wsX7_areThere := goodIn_r _ [4, 5, 6, 3, 7, 8, 9, 10, 11, 12, 13] (by decide +kernel) (by decide +kernel)
set_option maxRecDepth 20000 in
theorem gX7_chainedIndex_X7_areThere : GoodIn wsX7_chainedIndex (va_wsS RX7 142 yX7_areThere wsX7_areThere) := goodIn_app (goodIn_of _ (by decide +kernel)) ggX7_chainedIndex_X7_areThere
set_option maxRecDepth 20000 in
theorem ggX7_chainedIndex_X7_chained : GoodIn wsX7_chainedIndex wsX7_chained := goodIn_r _ [17, 18, 19, 20, 21, 3, 22, 23, 24, 25, 26, 27, 28, 29, 30, 31, 32, 33, 34, 35, 36, 37, 38, 39, 40, 41, 42, 43, 44, 45, 46, 47, 48, 49, 50, 51, 52, 53, 54, 55, 56, 57, 58, 59, 60, 61, 62, 67, 68, 69, 70, 71, 72, 73, 74, 75, 76, 77, 78, 79, 80, 81] (by decide +kernel) (by decide +kernel)
set_option maxRecDepth 20000 in
theorem gX7_chainedIndex_X7_chained : GoodIn wsX7_chainedIndex (wsV RX7 156 RX7 yX7_chained wsX7_chained) := goodIn_app (goodIn_of _ (by decide +kernel)) ggX7_chainedIndex_X7_chained
set_option maxRecDepth 20000 in
theorem ggX7_chainedIndex_X7_hundredths : GoodIn wsX7_chainedIndex wsX7_hundredths := goodIn_r _ [65, 18, 66] (by decide +kernel) (by decide +kernel)
set_option maxRecDepth 20000 in
theorem gX7_chainedIndex_X7_hundredths : GoodIn wsX7_chainedIndex (va_wsS RX7 153 yX7_hundredths wsX7_hundredths) := goodIn_app (goodIn_of _ (by decide +kernel)) ggX7_chainedIndex_X7_hundredths
theorem dX7_chainedIndex_0 : decode cX7_chainedIndex 0 = .ok (.iload_n 1, 1) := by decide +kernel
theorem dX7_chainedIndex_1 : decode cX7_chainedIndex 1 = .ok (.iload_n 2, 1) := by decide +kernel
theorem dX7_chainedIndex_2 : decode cX7_chainedIndex 2 = .ok (.iload_n 3, 1) := by decide +kernel
theorem dX7_chainedIndex_3 : decode cX7_chainedIndex 3 = .ok (.invokestatic 142, 3) := by decide +kernel
theorem dX7_chainedIndex_6 : decode cX7_chainedIndex 6 = .ok (.ifCond .eq 21, 3) := by decide +kernel
theorem dX7_chainedIndex_9 : decode cX7_chainedIndex 9 = .ok (.iload_n 3, 1) := by decide +kernel
theorem dX7_chainedIndex_10 : decode cX7_chainedIndex 10 = .ok (.iload_n 2, 1) := by decide +kernel
theorem dX7_chainedIndex_11 : decode cX7_chainedIndex 11 = .ok (.if_icmp .lt 16, 3) := by decide +kernel
theorem dX7_chainedIndex_14 : decode cX7_chainedIndex 14 = .ok (.aload_n 0, 1) := by decide +kernel
theorem dX7_chainedIndex_15 : decode cX7_chainedIndex 15 = .ok (.iload_n 1, 1) := by decide +kernel
theorem dX7_chainedIndex_16 : decode cX7_chainedIndex 16 = .ok (.iload_n 2, 1) := by decide +kernel
theorem dX7_chainedIndex_17 : decode cX7_chainedIndex 17 = .ok (.iload_n 3, 1) := by decide +kernel
theorem dX7_chainedIndex_18 : decode cX7_chainedIndex 18 = .ok (.invokevirtual 156, 3) := by decide +kernel
theorem dX7_chainedIndex_21 : decode cX7_chainedIndex 21 = .ok (.invokestatic 153, 3) := by decide +kernel
theorem dX7_chainedIndex_24 : decode cX7_chainedIndex 24 = .ok (.goto 4, 3) := by decide +kernel
theorem dX7_chainedIndex_27 : decode cX7_chainedIndex 27 = .ok (.iconst (-1), 1) := by decide +kernel
theorem dX7_chainedIndex_28 : decode cX7_chainedIndex 28 = .ok (.ireturn, 1) := by decide +kernel
set_option maxRecDepth 20000 in
theorem ggX7_drift_X7_areThere : GoodIn wsX7_drift wsX7_areThere := goodIn_r _ [6, 7, 8, 5, 9, 10, 11, 12, 13, 14, 15] (by decide +kernel) (by decide +kernel)
set_option maxRecDepth 20000 in
theorem gX7_drift_X7_areThere : GoodIn wsX7_drift (va_wsS RX7 142 yX7_areThere wsX7_areThere) := goodIn_app (goodIn_of _ (by decide +kernel)) ggX7_drift_X7_areThere
set_option maxRecDepth 20000 in
theorem ggX7_drift_X7_chained : GoodIn wsX7_drift wsX7_chained := goodIn_r _ [19, 20, 21, 22, 23, 5, 24, 25, 26, 27, 28, 29, 30, 31, 32, 33, 34, 35, 36, 37, 38, 39, 40, 41, 42, 43, 44, 45, 46, 47, 48, 49, 50, 51, 52, 53, 54, 55, 56, 57, 58, 59, 60, 61, 62, 63, 64, 80, 81, 82, 83, 84, 85, 86, 87, 88, 89, 90, 91, 92, 93, 94] (by decide +kernel) (by decide +kernel)
set_option maxRecDepth 20000 in
theorem gX7_drift_X7_chained : GoodIn wsX7_drift (wsV RX7 156 RX7 yX7_chained wsX7_chained) := goodIn_app (goodIn_of _ (by decide +kernel)) ggX7_drift_X7_chained
set_option maxRecDepth 20000 in
theorem ggX7_drift_X7_hundredths : GoodIn wsX7_drift wsX7_hundredths := goodIn_r _ [67, 20, 68] (by decide +kernel) (by decide +kernel)
set_option maxRecDepth 20000 in
theorem gX7_drift_X7_hundredths : GoodIn wsX7_drift (va_wsS RX7 153 yX7_hundredths wsX7_hundredths) := goodIn_app (goodIn_of _ (by decide +kernel)) ggX7_drift_X7_hundredths
set_option maxRecDepth 20000 in
theorem ggX7_drift_X7_find : GoodIn wsX7_drift wsX7_find := goodIn_r _ [72, 25, 73, 74, 75, 37, 38, 39, 5, 40, 41, 42, 43, 44, 45, 46, 47, 48, 49, 50, 51, 52, 53, 54, 55, 56, 21, 22, 23, 24, 26, 27, 28, 29, 30, 31, 32, 33, 34, 35, 36, 57, 58, 59, 60, 61, 62, 63, 64, 80, 81, 82, 83, 84, 85, 86, 87, 88, 89, 90, 91, 92, 93, 94] (by decide +kernel) (by decide +kernel)
set_option maxRecDepth 20000 in
theorem gX7_drift_X7_find : GoodIn wsX7_drift (wsV RX7 133 RX7 yX7_find wsX7_find) := goodIn_app (goodIn_of _ (by decide +kernel)) ggX7_drift_X7_find
set_option maxRecDepth 20000 in
theorem ggX7_drift_X7_hasDirect : GoodIn wsX7_drift wsX7_hasDirect := goodIn_r _ [79, 25, 74, 75, 26, 20, 2, 27, 28, 29, 5, 30, 31, 32, 57, 58, 59, 60, 61, 62, 63, 64, 80, 81, 82, 83, 84, 85, 86, 87, 88, 89, 90, 91, 92, 93, 94] (by decide +kernel) (by decide +kernel)
set_option maxRecDepth 20000 in
theorem gX7_drift_X7_hasDirect : GoodIn wsX7_drift (wsV RX7 150 RX7 yX7_hasDirect wsX7_hasDirect) := goodIn_app (goodIn_of _ (by decide +kernel)) ggX7_drift_X7_hasDirect
theorem dX7_drift_0 : decode cX7_drift 0 = .ok (.iload_n 1, 1) := by decide +kernel
theorem dX7_drift_1 : decode cX7_drift 1 = .ok (.iload_n 2, 1) := by decide +kernel
theorem dX7_drift_2 : decode cX7_drift 2 = .ok (.iload_n 3, 1) := by decide +kernel
theorem dX7_drift_3 : decode cX7_drift 3 = .ok (.invokestatic 142, 3) := by decide +kernel
theorem dX7_drift_6 : decode cX7_drift 6 = .ok (.ifCond .eq 8, 3) := by decide +kernel
theorem dX7_drift_9 : decode cX7_drift 9 = .ok (.iload_n 3, 1) := by decide +kernel
theorem dX7_drift_10 : decode cX7_drift 10 = .ok (.iload_n 2, 1) := by decide +kernel
theorem dX7_drift_11 : decode cX7_drift 11 = .ok (.if_icmp .ge 5, 3) := by decide +kernel
theorem dX7_drift_14 : decode cX7_drift 14 = .ok (.iconst (-1), 1) := by decide +kernel
theorem dX7_drift_15 : decode cX7_drift 15 = .ok (.ireturn, 1) := by decide +kernel
theorem dX7_drift_16 : decode cX7_drift 16 = .ok (.aload_n 0, 1) := by decide +kernel
theorem dX7_drift_17 : decode cX7_drift 17 = .ok (.iload_n 1, 1) := by decide +kernel
theorem dX7_drift_18 : decode cX7_drift 18 = .ok (.iload_n 2, 1) := by decide +kernel
theorem dX7_drift_19 : decode cX7_drift 19 = .ok (.iload_n 3, 1) := by decide +kernel
theorem dX7_drift_20 : decode cX7_drift 20 = .ok (.invokevirtual 156, 3) := by decide +kernel
theorem dX7_drift_23 : decode cX7_drift 23 = .ok (.invokestatic 153, 3) := by decide +kernel
theorem dX7_drift_26 : decode cX7_drift 26 = .ok (.istore 4, 2) := by decide +kernel
theorem dX7_drift_28 : decode cX7_drift 28 = .ok (.aload_n 0, 1) := by decide +kernel
theorem dX7_drift_29 : decode cX7_drift 29 = .ok (.invokevirtual 133, 3) := by decide +kernel
theorem dX7_drift_32 : decode cX7_drift 32 = .ok (.aload_n 0, 1) := by decide +kernel
theorem dX7_drift_33 : decode cX7_drift 33 = .ok (.iload_n 1, 1) := by decide +kernel
theorem dX7_drift_34 : decode cX7_drift 34 = .ok (.iload_n 2, 1) := by decide +kernel
theorem dX7_drift_35 : decode cX7_drift 35 = .ok (.iload_n 3, 1) := by decide +kernel
theorem dX7_drift_36 : decode cX7_drift 36 = .ok (.invokevirtual 150, 3) := by decide +kernel
theorem dX7_drift_39 : decode cX7_drift 39 = .ok (.ifCond .eq 19, 3) := by decide +kernel
theorem dX7_drift_42 : decode cX7_drift 42 = .ok (.ldc 159, 2) := by decide +kernel
theorem dX7_drift_44 : decode cX7_drift 44 = .ok (.iload 4, 2) := by decide +kernel
theorem dX7_drift_46 : decode cX7_drift 46 = .ok (.aload_n 0, 1) := by decide +kernel
theorem dX7_drift_47 : decode cX7_drift 47 = .ok (.getfield 147, 3) := by decide +kernel
theorem dX7_drift_50 : decode cX7_drift 50 = .ok (.invokestatic 153, 3) := by decide +kernel
theorem dX7_drift_53 : decode cX7_drift 53 = .ok (.isub, 1) := by decide +kernel
theorem dX7_drift_54 : decode cX7_drift 54 = .ok (.iadd, 1) := by decide +kernel
theorem dX7_drift_55 : decode cX7_drift 55 = .ok (.goto 5, 3) := by decide +kernel
theorem dX7_drift_58 : decode cX7_drift 58 = .ok (.bipush (-9), 2) := by decide +kernel
theorem dX7_drift_60 : decode cX7_drift 60 = .ok (.ireturn, 1) := by decide +kernel
set_option maxRecDepth 20000 in
theorem ggX7_hasAggregate_X7_find : GoodIn wsX7_hasAggregate wsX7_find := goodIn_r _ [7, 1, 8, 9, 10, 11, 12, 13, 6, 14, 15, 16, 17, 18, 19, 20, 21, 22, 23, 24, 25, 26, 27, 28, 29, 30, 31, 32, 33, 34, 35, 36, 37, 38, 39, 40, 41, 42, 43, 44, 45, 46, 47, 48, 49, 50, 51, 52, 53, 59, 60, 61, 62, 63, 64, 65, 66, 67, 68, 69, 70, 71, 72, 73] (by decide +kernel) (by decide +kernel)
set_option maxRecDepth 20000 in
theorem gX7_hasAggregate_X7_find : GoodIn wsX7_hasAggregate (wsV RX7 133 RX7 yX7_find wsX7_find) := goodIn_app (goodIn_of _ (by decide +kernel)) ggX7_hasAggregate_X7_find
set_option maxRecDepth 20000 in
theorem ggX7_hasAggregate_X7_hasDirect : GoodIn wsX7_hasAggregate wsX7_hasDirect := goodIn_r _ [57, 1, 9, 10, 35, 58, 2, 36, 37, 38, 6, 39, 40, 41, 46, 47, 48, 49, 50, 51, 52, 53, 59, 60, 61, 62, 63, 64, 65, 66, 67, 68, 69, 70, 71, 72, 73] (by decide +kernel) (by decide +kernel)
set_option maxRecDepth 20000 in
theorem gX7_hasAggregate_X7_hasDirect : GoodIn wsX7_hasAggregate (wsV RX7 150 RX7 yX7_hasDirect wsX7_hasDirect) := goodIn_app (goodIn_of _ (by decide +kernel)) ggX7_hasAggregate_X7_hasDirect
theorem dX7_hasAggregate_0 : decode cX7_hasAggregate 0 = .ok (.aload_n 0, 1) := by decide +kernel
theorem dX7_hasAggregate_1 : decode cX7_hasAggregate 1 = .ok (.invokevirtual 133, 3) := by decide +kernel
theorem dX7_hasAggregate_4 : decode cX7_hasAggregate 4 = .ok (.fconst 0, 1) := by decide +kernel
theorem dX7_hasAggregate_5 : decode cX7_hasAggregate 5 = .ok (.fstore_n 3, 1) := by decide +kernel
theorem dX7_hasAggregate_6 : decode cX7_hasAggregate 6 = .ok (.iconst 0, 1) := by decide +kernel
theorem dX7_hasAggregate_7 : decode cX7_hasAggregate 7 = .ok (.istore 4, 2) := by decide +kernel
theorem dX7_hasAggregate_9 : decode cX7_hasAggregate 9 = .ok (.iconst 0, 1) := by decide +kernel
theorem dX7_hasAggregate_10 : decode cX7_hasAggregate 10 = .ok (.istore 5, 2) := by decide +kernel
theorem dX7_hasAggregate_12 : decode cX7_hasAggregate 12 = .ok (.iload 5, 2) := by decide +kernel
theorem dX7_hasAggregate_14 : decode cX7_hasAggregate 14 = .ok (.iconst 4, 1) := by decide +kernel
theorem dX7_hasAggregate_15 : decode cX7_hasAggregate 15 = .ok (.if_icmp .ge 52, 3) := by decide +kernel
theorem dX7_hasAggregate_18 : decode cX7_hasAggregate 18 = .ok (.aload_n 0, 1) := by decide +kernel
theorem dX7_hasAggregate_19 : decode cX7_hasAggregate 19 = .ok (.iload 5, 2) := by decide +kernel
theorem dX7_hasAggregate_21 : decode cX7_hasAggregate 21 = .ok (.iload_n 1, 1) := by decide +kernel
theorem dX7_hasAggregate_22 : decode cX7_hasAggregate 22 = .ok (.iload_n 2, 1) := by decide +kernel
theorem dX7_hasAggregate_23 : decode cX7_hasAggregate 23 = .ok (.invokevirtual 150, 3) := by decide +kernel
theorem dX7_hasAggregate_26 : decode cX7_hasAggregate 26 = .ok (.ifCond .eq 35, 3) := by decide +kernel
theorem dX7_hasAggregate_29 : decode cX7_hasAggregate 29 = .ok (.fload_n 3, 1) := by decide +kernel
theorem dX7_hasAggregate_30 : decode cX7_hasAggregate 30 = .ok (.aload_n 0, 1) := by decide +kernel
theorem dX7_hasAggregate_31 : decode cX7_hasAggregate 31 = .ok (.getfield 7, 3) := by decide +kernel
theorem dX7_hasAggregate_34 : decode cX7_hasAggregate 34 = .ok (.iconst 0, 1) := by decide +kernel
theorem dX7_hasAggregate_35 : decode cX7_hasAggregate 35 = .ok (.iload 5, 2) := by decide +kernel
theorem dX7_hasAggregate_37 : decode cX7_hasAggregate 37 = .ok (.iadd, 1) := by decide +kernel
theorem dX7_hasAggregate_38 : decode cX7_hasAggregate 38 = .ok (.iaload, 1) := by decide +kernel
theorem dX7_hasAggregate_39 : decode cX7_hasAggregate 39 = .ok (.i2f, 1) := by decide +kernel
theorem dX7_hasAggregate_40 : decode cX7_hasAggregate 40 = .ok (.aload_n 0, 1) := by decide +kernel
theorem dX7_hasAggregate_41 : decode cX7_hasAggregate 41 = .ok (.getfield 147, 3) := by decide +kernel
theorem dX7_hasAggregate_44 : decode cX7_hasAggregate 44 = .ok (.fmul, 1) := by decide +kernel
theorem dX7_hasAggregate_45 : decode cX7_hasAggregate 45 = .ok (.fadd, 1) := by decide +kernel
theorem dX7_hasAggregate_46 : decode cX7_hasAggregate 46 = .ok (.fstore_n 3, 1) := by decide +kernel
theorem dX7_hasAggregate_47 : decode cX7_hasAggregate 47 = .ok (.iload 4, 2) := by decide +kernel
theorem dX7_hasAggregate_49 : decode cX7_hasAggregate 49 = .ok (.aload_n 0, 1) := by decide +kernel
theorem dX7_hasAggregate_50 : decode cX7_hasAggregate 50 = .ok (.getfield 7, 3) := by decide +kernel
theorem dX7_hasAggregate_53 : decode cX7_hasAggregate 53 = .ok (.iconst 0, 1) := by decide +kernel
theorem dX7_hasAggregate_54 : decode cX7_hasAggregate 54 = .ok (.iload 5, 2) := by decide +kernel
theorem dX7_hasAggregate_56 : decode cX7_hasAggregate 56 = .ok (.iadd, 1) := by decide +kernel
theorem dX7_hasAggregate_57 : decode cX7_hasAggregate 57 = .ok (.iaload, 1) := by decide +kernel
theorem dX7_hasAggregate_58 : decode cX7_hasAggregate 58 = .ok (.iadd, 1) := by decide +kernel
theorem dX7_hasAggregate_59 : decode cX7_hasAggregate 59 = .ok (.istore 4, 2) := by decide +kernel
theorem dX7_hasAggregate_61 : decode cX7_hasAggregate 61 = .ok (.iinc 5 1, 3) := by decide +kernel
theorem dX7_hasAggregate_64 : decode cX7_hasAggregate 64 = .ok (.goto (-52), 3) := by decide +kernel
theorem dX7_hasAggregate_67 : decode cX7_hasAggregate 67 = .ok (.aload_n 0, 1) := by decide +kernel
theorem dX7_hasAggregate_68 : decode cX7_hasAggregate 68 = .ok (.iload 4, 2) := by decide +kernel
theorem dX7_hasAggregate_70 : decode cX7_hasAggregate 70 = .ok (.ifCond .ne 7, 3) := by decide +kernel
theorem dX7_hasAggregate_73 : decode cX7_hasAggregate 73 = .ok (.fconst 0, 1) := by decide +kernel
theorem dX7_hasAggregate_74 : decode cX7_hasAggregate 74 = .ok (.goto 8, 3) := by decide +kernel
theorem dX7_hasAggregate_77 : decode cX7_hasAggregate 77 = .ok (.fload_n 3, 1) := by decide +kernel
theorem dX7_hasAggregate_78 : decode cX7_hasAggregate 78 = .ok (.iload 4, 2) := by decide +kernel
theorem dX7_hasAggregate_80 : decode cX7_hasAggregate 80 = .ok (.i2f, 1) := by decide +kernel
theorem dX7_hasAggregate_81 : decode cX7_hasAggregate 81 = .ok (.fdiv, 1) := by decide +kernel
theorem dX7_hasAggregate_82 : decode cX7_hasAggregate 82 = .ok (.putfield 147, 3) := by decide +kernel
theorem dX7_hasAggregate_85 : decode cX7_hasAggregate 85 = .ok (.iload 4, 2) := by decide +kernel
theorem dX7_hasAggregate_87 : decode cX7_hasAggregate 87 = .ok (.ifCond .le 7, 3) := by decide +kernel
theorem dX7_hasAggregate_90 : decode cX7_hasAggregate 90 = .ok (.iconst 1, 1) := by decide +kernel
theorem dX7_hasAggregate_91 : decode cX7_hasAggregate 91 = .ok (.goto 4, 3) := by decide +kernel
theorem dX7_hasAggregate_94 : decode cX7_hasAggregate 94 = .ok (.iconst 0, 1) := by decide +kernel
theorem dX7_hasAggregate_95 : decode cX7_hasAggregate 95 = .ok (.ireturn, 1) := by decide +kernel
set_option maxRecDepth 20000 in
theorem ggX7_aggregateIndex_X7_isMonth : GoodIn wsX7_aggregateIndex wsX7_isMonth := goodIn_r _ [5, 6, 7, 4, 8] (by decide +kernel) (by decide +kernel)
set_option maxRecDepth 20000 in
theorem gX7_aggregateIndex_X7_isMonth : GoodIn wsX7_aggregateIndex (va_wsS RX7 52 yX7_isMonth wsX7_isMonth) := goodIn_app (goodIn_of _ (by decide +kernel)) ggX7_aggregateIndex_X7_isMonth
set_option maxRecDepth 20000 in
theorem ggX7_aggregateIndex_X7_hasAggregate : GoodIn wsX7_aggregateIndex wsX7_hasAggregate := goodIn_r _ [12, 13, 1, 14, 15, 16, 4, 17, 18, 19, 20, 21, 22, 23, 24, 25, 26, 27, 28, 29, 30, 31, 32, 33, 34, 35, 36, 37, 38, 39, 40, 41, 42, 43, 44, 45, 46, 47, 48, 49, 50, 51, 52, 53, 54, 55, 56, 57, 58, 59, 60, 61, 62, 63, 64, 65, 66, 67, 68, 73, 74, 75, 76, 77, 78, 79, 80, 81, 82, 83, 84, 85, 86, 87] (by decide +kernel) (by decide +kernel)
set_option maxRecDepth 20000 in
theorem gX7_aggregateIndex_X7_hasAggregate : GoodIn wsX7_aggregateIndex (wsV RX7 160 RX7 yX7_hasAggregate wsX7_hasAggregate) := goodIn_app (goodIn_of _ (by decide +kernel)) ggX7_aggregateIndex_X7_hasAggregate
set_option maxRecDepth 20000 in
theorem ggX7_aggregateIndex_X7_hundredths : GoodIn wsX7_aggregateIndex wsX7_hundredths := goodIn_r _ [71, 68, 72] (by decide +kernel) (by decide +kernel)
set_option maxRecDepth 20000 in
theorem gX7_aggregateIndex_X7_hundredths : GoodIn wsX7_aggregateIndex (va_wsS RX7 153 yX7_hundredths wsX7_hundredths) := goodIn_app (goodIn_of _ (by decide +kernel)) ggX7_aggregateIndex_X7_hundredths
theorem dX7_aggregateIndex_0 : decode cX7_aggregateIndex 0 = .ok (.iload_n 1, 1) := by decide +kernel
theorem dX7_aggregateIndex_1 : decode cX7_aggregateIndex 1 = .ok (.invokestatic 52, 3) := by decide +kernel
theorem dX7_aggregateIndex_4 : decode cX7_aggregateIndex 4 = .ok (.ifCond .eq 10, 3) := by decide +kernel
theorem dX7_aggregateIndex_7 : decode cX7_aggregateIndex 7 = .ok (.iload_n 2, 1) := by decide +kernel
theorem dX7_aggregateIndex_8 : decode cX7_aggregateIndex 8 = .ok (.invokestatic 52, 3) := by decide +kernel
theorem dX7_aggregateIndex_11 : decode cX7_aggregateIndex 11 = .ok (.ifCond .ne 5, 3) := by decide +kernel
theorem dX7_aggregateIndex_14 : decode cX7_aggregateIndex 14 = .ok (.iconst (-1), 1) := by decide +kernel
theorem dX7_aggregateIndex_15 : decode cX7_aggregateIndex 15 = .ok (.ireturn, 1) := by decide +kernel
theorem dX7_aggregateIndex_16 : decode cX7_aggregateIndex 16 = .ok (.aload_n 0, 1) := by decide +kernel
theorem dX7_aggregateIndex_17 : decode cX7_aggregateIndex 17 = .ok (.iload_n 1, 1) := by decide +kernel
theorem dX7_aggregateIndex_18 : decode cX7_aggregateIndex 18 = .ok (.iload_n 2, 1) := by decide +kernel
theorem dX7_aggregateIndex_19 : decode cX7_aggregateIndex 19 = .ok (.invokevirtual 160, 3) := by decide +kernel
theorem dX7_aggregateIndex_22 : decode cX7_aggregateIndex 22 = .ok (.ifCond .eq 13, 3) := by decide +kernel
theorem dX7_aggregateIndex_25 : decode cX7_aggregateIndex 25 = .ok (.aload_n 0, 1) := by decide +kernel
theorem dX7_aggregateIndex_26 : decode cX7_aggregateIndex 26 = .ok (.getfield 147, 3) := by decide +kernel
theorem dX7_aggregateIndex_29 : decode cX7_aggregateIndex 29 = .ok (.invokestatic 153, 3) := by decide +kernel
theorem dX7_aggregateIndex_32 : decode cX7_aggregateIndex 32 = .ok (.goto 5, 3) := by decide +kernel
theorem dX7_aggregateIndex_35 : decode cX7_aggregateIndex 35 = .ok (.bipush (-9), 2) := by decide +kernel
theorem dX7_aggregateIndex_37 : decode cX7_aggregateIndex 37 = .ok (.ireturn, 1) := by decide +kernel
set_option maxRecDepth 20000 in
theorem ggX7_aggregateBits_X7_isMonth : GoodIn wsX7_aggregateBits wsX7_isMonth := goodIn_r _ [5, 6, 7, 4, 8] (by decide +kernel) (by decide +kernel)
set_option maxRecDepth 20000 in
theorem gX7_aggregateBits_X7_isMonth : GoodIn wsX7_aggregateBits (va_wsS RX7 52 yX7_isMonth wsX7_isMonth) := goodIn_app (goodIn_of _ (by decide +kernel)) ggX7_aggregateBits_X7_isMonth
set_option maxRecDepth 20000 in
theorem ggX7_aggregateBits_X7_hasAggregate : GoodIn wsX7_aggregateBits wsX7_hasAggregate := goodIn_r _ [12, 13, 1, 14, 15, 16, 4, 17, 18, 19, 20, 21, 22, 23, 24, 25, 26, 27, 28, 29, 30, 31, 32, 33, 34, 35, 36, 37, 38, 39, 40, 41, 42, 43, 44, 45, 46, 47, 48, 49, 50, 51, 52, 53, 54, 55, 56, 57, 58, 59, 60, 61, 62, 63, 64, 65, 66, 67, 68, 81, 82, 83, 84, 85, 86, 87, 88, 89, 90, 91, 92, 93, 94, 95] (by decide +kernel) (by decide +kernel)
set_option maxRecDepth 20000 in
theorem gX7_aggregateBits_X7_hasAggregate : GoodIn wsX7_aggregateBits (wsV RX7 160 RX7 yX7_hasAggregate wsX7_hasAggregate) := goodIn_app (goodIn_of _ (by decide +kernel)) ggX7_aggregateBits_X7_hasAggregate
set_option maxRecDepth 20000 in
theorem ggX7_aggregateBits_Jxf58ca_floatToIntBits_5c35a : GoodIn wsX7_aggregateBits wsJxf58ca_floatToIntBits_5c35a := goodIn_r _ [72, 73, 74, 75, 76, 77, 78, 79, 71, 80] (by decide +kernel) (by decide +kernel)
set_option maxRecDepth 20000 in
theorem gX7_aggregateBits_Jxf58ca_floatToIntBits_5c35a : GoodIn wsX7_aggregateBits (va_wsS RX7 136 yJxf58ca_floatToIntBits_5c35a wsJxf58ca_floatToIntBits_5c35a) := goodIn_app (goodIn_of _ (by decide +kernel)) ggX7_aggregateBits_Jxf58ca_floatToIntBits_5c35a
theorem dX7_aggregateBits_0 : decode cX7_aggregateBits 0 = .ok (.iload_n 1, 1) := by decide +kernel
theorem dX7_aggregateBits_1 : decode cX7_aggregateBits 1 = .ok (.invokestatic 52, 3) := by decide +kernel
theorem dX7_aggregateBits_4 : decode cX7_aggregateBits 4 = .ok (.ifCond .eq 10, 3) := by decide +kernel
theorem dX7_aggregateBits_7 : decode cX7_aggregateBits 7 = .ok (.iload_n 2, 1) := by decide +kernel
theorem dX7_aggregateBits_8 : decode cX7_aggregateBits 8 = .ok (.invokestatic 52, 3) := by decide +kernel
theorem dX7_aggregateBits_11 : decode cX7_aggregateBits 11 = .ok (.ifCond .ne 5, 3) := by decide +kernel
theorem dX7_aggregateBits_14 : decode cX7_aggregateBits 14 = .ok (.iconst (-1), 1) := by decide +kernel
theorem dX7_aggregateBits_15 : decode cX7_aggregateBits 15 = .ok (.ireturn, 1) := by decide +kernel
theorem dX7_aggregateBits_16 : decode cX7_aggregateBits 16 = .ok (.aload_n 0, 1) := by decide +kernel
theorem dX7_aggregateBits_17 : decode cX7_aggregateBits 17 = .ok (.iload_n 1, 1) := by decide +kernel
theorem dX7_aggregateBits_18 : decode cX7_aggregateBits 18 = .ok (.iload_n 2, 1) := by decide +kernel
theorem dX7_aggregateBits_19 : decode cX7_aggregateBits 19 = .ok (.invokevirtual 160, 3) := by decide +kernel
theorem dX7_aggregateBits_22 : decode cX7_aggregateBits 22 = .ok (.ifCond .eq 13, 3) := by decide +kernel
theorem dX7_aggregateBits_25 : decode cX7_aggregateBits 25 = .ok (.aload_n 0, 1) := by decide +kernel
theorem dX7_aggregateBits_26 : decode cX7_aggregateBits 26 = .ok (.getfield 147, 3) := by decide +kernel
theorem dX7_aggregateBits_29 : decode cX7_aggregateBits 29 = .ok (.invokestatic 136, 3) := by decide +kernel
theorem dX7_aggregateBits_32 : decode cX7_aggregateBits 32 = .ok (.goto 5, 3) := by decide +kernel
theorem dX7_aggregateBits_35 : decode cX7_aggregateBits 35 = .ok (.bipush (-9), 2) := by decide +kernel
theorem dX7_aggregateBits_37 : decode cX7_aggregateBits 37 = .ok (.ireturn, 1) := by decide +kernel
