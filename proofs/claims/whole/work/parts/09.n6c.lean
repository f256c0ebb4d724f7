theorem dX6_undo_7 : decode cX6_undo 7 = .ok (.ifCond .ne 6, 3) := by decide +kernel
theorem dX6_undo_10 : decode cX6_undo 10 = .ok (.bipush (-2), 2) := by decide +kernel
theorem dX6_undo_12 : decode cX6_undo 12 = .ok (.ireturn, 1) := by decide +kernel
theorem dX6_undo_13 : decode cX6_undo 13 = .ok (.aload_n 0, 1) := by decide +kernel
theorem dX6_undo_14 : decode cX6_undo 14 = .ok (.getfield 35, 3) := by decide +kernel
theorem dX6_undo_17 : decode cX6_undo 17 = .ok (.invokevirtual 182, 3) := by decide +kernel
theorem dX6_undo_20 : decode cX6_undo 20 = .ok (.aload_n 0, 1) := by decide +kernel
theorem dX6_undo_21 : decode cX6_undo 21 = .ok (.getfield 19, 3) := by decide +kernel
theorem dX6_undo_24 : decode cX6_undo 24 = .ok (.aload_n 0, 1) := by decide +kernel
theorem dX6_undo_25 : decode cX6_undo 25 = .ok (.getfield 12, 3) := by decide +kernel
theorem dX6_undo_28 : decode cX6_undo 28 = .ok (.invokevirtual 185, 3) := by decide +kernel
theorem dX6_undo_31 : decode cX6_undo 31 = .ok (.ireturn, 1) := by decide +kernel
set_option maxRecDepth 20000 in
theorem ggX6_beginEdit_X1_keep : GoodIn wsX6_beginEdit wsX1_keep := goodIn_r _ [8, 9, 10, 11, 12, 13, 14, 15, 16, 17, 18, 19, 20, 21, 22, 23, 24, 25, 26, 27, 28, 29, 30, 41, 42, 43, 44, 45, 46, 47, 48, 49, 50, 51, 52, 53] (by decide +kernel) (by decide +kernel)
set_option maxRecDepth 20000 in
theorem gX6_beginEdit_X1_keep : GoodIn wsX6_beginEdit (wsV RX6 189 RX1 yX1_keep wsX1_keep) := goodIn_app (goodIn_of _ (by decide +kernel)) ggX6_beginEdit_X1_keep
set_option maxRecDepth 20000 in
theorem ggX6_beginEdit_X3_outdate : GoodIn wsX6_beginEdit wsX3_outdate := goodIn_r _ [35, 36, 54, 55, 56, 57] (by decide +kernel) (by decide +kernel)
set_option maxRecDepth 20000 in
theorem gX6_beginEdit_X3_outdate : GoodIn wsX6_beginEdit (wsV RX6 182 RX3 yX3_outdate wsX3_outdate) := goodIn_app (goodIn_of _ (by decide +kernel)) ggX6_beginEdit_X3_outdate
theorem dX6_beginEdit_0 : decode cX6_beginEdit 0 = .ok (.aload_n 0, 1) := by decide +kernel
theorem dX6_beginEdit_1 : decode cX6_beginEdit 1 = .ok (.getfield 19, 3) := by decide +kernel
theorem dX6_beginEdit_4 : decode cX6_beginEdit 4 = .ok (.aload_n 0, 1) := by decide +kernel
theorem dX6_beginEdit_5 : decode cX6_beginEdit 5 = .ok (.getfield 12, 3) := by decide +kernel
theorem dX6_beginEdit_8 : decode cX6_beginEdit 8 = .ok (.invokevirtual 189, 3) := by decide +kernel
theorem dX6_beginEdit_11 : decode cX6_beginEdit 11 = .ok (.aload_n 0, 1) := by decide +kernel
theorem dX6_beginEdit_12 : decode cX6_beginEdit 12 = .ok (.getfield 35, 3) := by decide +kernel
theorem dX6_beginEdit_15 : decode cX6_beginEdit 15 = .ok (.invokevirtual 182, 3) := by decide +kernel
theorem dX6_beginEdit_18 : decode cX6_beginEdit 18 = .ok (.return_, 1) := by decide +kernel
theorem dX6_isItem_0 : decode cX6_isItem 0 = .ok (.iload_n 1, 1) := by decide +kernel
theorem dX6_isItem_1 : decode cX6_isItem 1 = .ok (.ifCond .lt 18, 3) := by decide +kernel
theorem dX6_isItem_4 : decode cX6_isItem 4 = .ok (.iload_n 1, 1) := by decide +kernel
theorem dX6_isItem_5 : decode cX6_isItem 5 = .ok (.aload_n 0, 1) := by decide +kernel
theorem dX6_isItem_6 : decode cX6_isItem 6 = .ok (.getfield 12, 3) := by decide +kernel
theorem dX6_isItem_9 : decode cX6_isItem 9 = .ok (.getfield 47, 3) := by decide +kernel
theorem dX6_isItem_12 : decode cX6_isItem 12 = .ok (.if_icmp .ge 7, 3) := by decide +kernel
theorem dX6_isItem_15 : decode cX6_isItem 15 = .ok (.iconst 1, 1) := by decide +kernel
theorem dX6_isItem_16 : decode cX6_isItem 16 = .ok (.goto 4, 3) := by decide +kernel
theorem dX6_isItem_19 : decode cX6_isItem 19 = .ok (.iconst 0, 1) := by decide +kernel
theorem dX6_isItem_20 : decode cX6_isItem 20 = .ok (.ireturn, 1) := by decide +kernel
theorem dX6_isStratum_0 : decode cX6_isStratum 0 = .ok (.iload_n 0, 1) := by decide +kernel
theorem dX6_isStratum_1 : decode cX6_isStratum 1 = .ok (.ifCond .lt 12, 3) := by decide +kernel
theorem dX6_isStratum_4 : decode cX6_isStratum 4 = .ok (.iload_n 0, 1) := by decide +kernel
theorem dX6_isStratum_5 : decode cX6_isStratum 5 = .ok (.iconst 4, 1) := by decide +kernel
theorem dX6_isStratum_6 : decode cX6_isStratum 6 = .ok (.if_icmp .ge 7, 3) := by decide +kernel
theorem dX6_isStratum_9 : decode cX6_isStratum 9 = .ok (.iconst 1, 1) := by decide +kernel
theorem dX6_isStratum_10 : decode cX6_isStratum 10 = .ok (.goto 4, 3) := by decide +kernel
theorem dX6_isStratum_13 : decode cX6_isStratum 13 = .ok (.iconst 0, 1) := by decide +kernel
theorem dX6_isStratum_14 : decode cX6_isStratum 14 = .ok (.ireturn, 1) := by decide +kernel
theorem dX6_isMonth_0 : decode cX6_isMonth 0 = .ok (.iload_n 0, 1) := by decide +kernel
theorem dX6_isMonth_1 : decode cX6_isMonth 1 = .ok (.ifCond .lt 13, 3) := by decide +kernel
theorem dX6_isMonth_4 : decode cX6_isMonth 4 = .ok (.iload_n 0, 1) := by decide +kernel
theorem dX6_isMonth_5 : decode cX6_isMonth 5 = .ok (.bipush 24, 2) := by decide +kernel
theorem dX6_isMonth_7 : decode cX6_isMonth 7 = .ok (.if_icmp .ge 7, 3) := by decide +kernel
theorem dX6_isMonth_10 : decode cX6_isMonth 10 = .ok (.iconst 1, 1) := by decide +kernel
theorem dX6_isMonth_11 : decode cX6_isMonth 11 = .ok (.goto 4, 3) := by decide +kernel
theorem dX6_isMonth_14 : decode cX6_isMonth 14 = .ok (.iconst 0, 1) := by decide +kernel
theorem dX6_isMonth_15 : decode cX6_isMonth 15 = .ok (.ireturn, 1) := by decide +kernel
theorem dX6_isWithin_0 : decode cX6_isWithin 0 = .ok (.iload_n 0, 1) := by decide +kernel
theorem dX6_isWithin_1 : decode cX6_isWithin 1 = .ok (.iload_n 1, 1) := by decide +kernel
theorem dX6_isWithin_2 : decode cX6_isWithin 2 = .ok (.if_icmp .lt 12, 3) := by decide +kernel
theorem dX6_isWithin_5 : decode cX6_isWithin 5 = .ok (.iload_n 0, 1) := by decide +kernel
theorem dX6_isWithin_6 : decode cX6_isWithin 6 = .ok (.iload_n 2, 1) := by decide +kernel
theorem dX6_isWithin_7 : decode cX6_isWithin 7 = .ok (.if_icmp .gt 7, 3) := by decide +kernel
theorem dX6_isWithin_10 : decode cX6_isWithin 10 = .ok (.iconst 1, 1) := by decide +kernel
theorem dX6_isWithin_11 : decode cX6_isWithin 11 = .ok (.goto 4, 3) := by decide +kernel
theorem dX6_isWithin_14 : decode cX6_isWithin 14 = .ok (.iconst 0, 1) := by decide +kernel
theorem dX6_isWithin_15 : decode cX6_isWithin 15 = .ok (.ireturn, 1) := by decide +kernel
theorem dX6_cell_0 : decode cX6_cell 0 = .ok (.iload_n 0, 1) := by decide +kernel
theorem dX6_cell_1 : decode cX6_cell 1 = .ok (.bipush 24, 2) := by decide +kernel
theorem dX6_cell_3 : decode cX6_cell 3 = .ok (.imul, 1) := by decide +kernel
theorem dX6_cell_4 : decode cX6_cell 4 = .ok (.iload_n 1, 1) := by decide +kernel
theorem dX6_cell_5 : decode cX6_cell 5 = .ok (.iadd, 1) := by decide +kernel
theorem dX6_cell_6 : decode cX6_cell 6 = .ok (.ireturn, 1) := by decide +kernel
