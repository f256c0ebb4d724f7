theorem dX6_knownPriceBits_51 : decode cX6_knownPriceBits 51 = .ok (.invokestatic 138, 3) := by decide +kernel
theorem dX6_knownPriceBits_54 : decode cX6_knownPriceBits 54 = .ok (.goto 5, 3) := by decide +kernel
theorem dX6_knownPriceBits_57 : decode cX6_knownPriceBits 57 = .ok (.bipush (-9), 2) := by decide +kernel
theorem dX6_knownPriceBits_59 : decode cX6_knownPriceBits 59 = .ok (.ireturn, 1) := by decide +kernel
set_option maxRecDepth 20000 in
theorem ggX6_isImputed_X6_isItem : GoodIn wsX6_isImputed wsX6_isItem := goodIn_r _ [7, 8, 9, 137, 138, 139, 140, 145, 146, 147, 148, 149, 150, 151, 152, 153, 154] (by decide +kernel) (by decide +kernel)
set_option maxRecDepth 20000 in
theorem gX6_isImputed_X6_isItem : GoodIn wsX6_isImputed (wsV RX6 58 RX6 yX6_isItem wsX6_isItem) := goodIn_app (goodIn_of _ (by decide +kernel)) ggX6_isImputed_X6_isItem
set_option maxRecDepth 20000 in
theorem ggX6_isImputed_X6_isMonth : GoodIn wsX6_isImputed wsX6_isMonth := goodIn_r _ [12] (by decide +kernel) (by decide +kernel)
set_option maxRecDepth 20000 in
theorem gX6_isImputed_X6_isMonth : GoodIn wsX6_isImputed (va_wsS RX6 61 yX6_isMonth wsX6_isMonth) := goodIn_app (goodIn_of _ (by decide +kernel)) ggX6_isImputed_X6_isMonth
set_option maxRecDepth 20000 in
theorem ggX6_isImputed_X3_refresh : GoodIn wsX6_isImputed wsX3_refresh := goodIn_r _ [17, 18, 19, 20, 21, 22, 23, 16, 24, 25, 26, 27, 28, 29, 30, 31, 32, 33, 34, 35, 36, 37, 38, 39, 40, 41, 42, 43, 44, 6, 45, 46, 47, 48, 49, 50, 51, 52, 53, 54, 55, 56, 57, 58, 59, 60, 61, 62, 63, 64, 65, 66, 67, 68, 69, 70, 71, 72, 73, 74, 75, 76, 77, 78, 79, 80, 81, 82, 83, 84, 85, 86, 87, 88, 89, 90, 91, 92, 93, 94, 95, 96, 97, 98, 99, 100, 101, 102, 103, 104, 105, 106, 107, 108, 109, 110, 111, 112, 113, 114, 115, 116, 117, 118, 119, 120, 121, 122, 123, 124, 125, 126, 127, 128, 129, 130, 131, 141, 142, 143, 144, 145, 146, 147, 148, 149, 150, 151, 152, 153, 154, 155, 156, 157] (by decide +kernel) (by decide +kernel)
set_option maxRecDepth 20000 in
theorem gX6_isImputed_X3_refresh : GoodIn wsX6_isImputed (wsV RX6 121 RX3 yX3_refresh wsX3_refresh) := goodIn_app (goodIn_of _ (by decide +kernel)) ggX6_isImputed_X3_refresh
set_option maxRecDepth 20000 in
theorem ggX6_isImputed_X2_has : GoodIn wsX6_isImputed wsX2_has := goodIn_r _ [129, 78, 44, 6, 45, 155, 156, 157] (by decide +kernel) (by decide +kernel)
set_option maxRecDepth 20000 in
theorem gX6_isImputed_X2_has : GoodIn wsX6_isImputed (wsV RX6 128 RX2 yX2_has wsX2_has) := goodIn_app (goodIn_of _ (by decide +kernel)) ggX6_isImputed_X2_has
set_option maxRecDepth 20000 in
theorem ggX6_isImputed_X3_hasImputed : GoodIn wsX6_isImputed wsX3_hasImputed := goodIn_r _ [136, 125, 25, 126, 127, 128, 76, 129, 78, 44, 6, 45, 141, 142, 143, 144, 155, 156, 157] (by decide +kernel) (by decide +kernel)
set_option maxRecDepth 20000 in
theorem gX6_isImputed_X3_hasImputed : GoodIn wsX6_isImputed (wsV RX6 144 RX3 yX3_hasImputed wsX3_hasImputed) := goodIn_app (goodIn_of _ (by decide +kernel)) ggX6_isImputed_X3_hasImputed
theorem dX6_isImputed_0 : decode cX6_isImputed 0 = .ok (.aload_n 0, 1) := by decide +kernel
theorem dX6_isImputed_1 : decode cX6_isImputed 1 = .ok (.iload_n 1, 1) := by decide +kernel
theorem dX6_isImputed_2 : decode cX6_isImputed 2 = .ok (.invokevirtual 58, 3) := by decide +kernel
theorem dX6_isImputed_5 : decode cX6_isImputed 5 = .ok (.ifCond .eq 10, 3) := by decide +kernel
theorem dX6_isImputed_8 : decode cX6_isImputed 8 = .ok (.iload_n 2, 1) := by decide +kernel
theorem dX6_isImputed_9 : decode cX6_isImputed 9 = .ok (.invokestatic 61, 3) := by decide +kernel
theorem dX6_isImputed_12 : decode cX6_isImputed 12 = .ok (.ifCond .ne 5, 3) := by decide +kernel
theorem dX6_isImputed_15 : decode cX6_isImputed 15 = .ok (.iconst (-1), 1) := by decide +kernel
theorem dX6_isImputed_16 : decode cX6_isImputed 16 = .ok (.ireturn, 1) := by decide +kernel
theorem dX6_isImputed_17 : decode cX6_isImputed 17 = .ok (.aload_n 0, 1) := by decide +kernel
theorem dX6_isImputed_18 : decode cX6_isImputed 18 = .ok (.getfield 35, 3) := by decide +kernel
theorem dX6_isImputed_21 : decode cX6_isImputed 21 = .ok (.invokevirtual 121, 3) := by decide +kernel
theorem dX6_isImputed_24 : decode cX6_isImputed 24 = .ok (.aload_n 0, 1) := by decide +kernel
theorem dX6_isImputed_25 : decode cX6_isImputed 25 = .ok (.getfield 35, 3) := by decide +kernel
theorem dX6_isImputed_28 : decode cX6_isImputed 28 = .ok (.getfield 124, 3) := by decide +kernel
theorem dX6_isImputed_31 : decode cX6_isImputed 31 = .ok (.iload_n 1, 1) := by decide +kernel
theorem dX6_isImputed_32 : decode cX6_isImputed 32 = .ok (.iload_n 2, 1) := by decide +kernel
theorem dX6_isImputed_33 : decode cX6_isImputed 33 = .ok (.invokevirtual 128, 3) := by decide +kernel
theorem dX6_isImputed_36 : decode cX6_isImputed 36 = .ok (.ifCond .ne 6, 3) := by decide +kernel
theorem dX6_isImputed_39 : decode cX6_isImputed 39 = .ok (.bipush (-9), 2) := by decide +kernel
theorem dX6_isImputed_41 : decode cX6_isImputed 41 = .ok (.ireturn, 1) := by decide +kernel
theorem dX6_isImputed_42 : decode cX6_isImputed 42 = .ok (.aload_n 0, 1) := by decide +kernel
theorem dX6_isImputed_43 : decode cX6_isImputed 43 = .ok (.getfield 35, 3) := by decide +kernel
theorem dX6_isImputed_46 : decode cX6_isImputed 46 = .ok (.iload_n 1, 1) := by decide +kernel
theorem dX6_isImputed_47 : decode cX6_isImputed 47 = .ok (.iload_n 2, 1) := by decide +kernel
theorem dX6_isImputed_48 : decode cX6_isImputed 48 = .ok (.invokevirtual 144, 3) := by decide +kernel
theorem dX6_isImputed_51 : decode cX6_isImputed 51 = .ok (.ifCond .eq 7, 3) := by decide +kernel
theorem dX6_isImputed_54 : decode cX6_isImputed 54 = .ok (.iconst 1, 1) := by decide +kernel
theorem dX6_isImputed_55 : decode cX6_isImputed 55 = .ok (.goto 4, 3) := by decide +kernel
theorem dX6_isImputed_58 : decode cX6_isImputed 58 = .ok (.iconst 0, 1) := by decide +kernel
theorem dX6_isImputed_59 : decode cX6_isImputed 59 = .ok (.ireturn, 1) := by decide +kernel
set_option maxRecDepth 20000 in
theorem ggX6_imputedCount_X6_isMonth : GoodIn wsX6_imputedCount wsX6_isMonth := goodIn_r _ [7] (by decide +kernel) (by decide +kernel)
set_option maxRecDepth 20000 in
theorem gX6_imputedCount_X6_isMonth : GoodIn wsX6_imputedCount (va_wsS RX6 61 yX6_isMonth wsX6_isMonth) := goodIn_app (goodIn_of _ (by decide +kernel)) ggX6_imputedCount_X6_isMonth
set_option maxRecDepth 20000 in
theorem ggX6_imputedCount_X3_refresh : GoodIn wsX6_imputedCount wsX3_refresh := goodIn_r _ [12, 13, 14, 15, 16, 17, 18, 11, 19, 20, 21, 22, 23, 24, 25, 26, 27, 28, 29, 30, 31, 32, 33, 34, 35, 36, 37, 38, 39, 6, 40, 41, 42, 43, 44, 45, 46, 47, 48, 49, 50, 51, 52, 53, 54, 55, 56, 57, 58, 59, 60, 61, 62, 63, 64, 65, 66, 67, 68, 69, 70, 71, 72, 73, 74, 75, 76, 77, 78, 79, 80, 81, 82, 83, 84, 85, 86, 87, 88, 89, 90, 91, 92, 93, 94, 95, 96, 97, 98, 99, 100, 101, 102, 103, 104, 105, 106, 107, 108, 109, 110, 111, 112, 113, 114, 115, 116, 117, 118, 119, 120, 121, 122, 123, 124, 125, 126, 145, 146, 147, 148, 135, 136, 137, 138, 139, 140, 141, 142, 143, 144, 149, 150, 151] (by decide +kernel) (by decide +kernel)
set_option maxRecDepth 20000 in
theorem gX6_imputedCount_X3_refresh : GoodIn wsX6_imputedCount (wsV RX6 121 RX3 yX3_refresh wsX3_refresh) := goodIn_app (goodIn_of _ (by decide +kernel)) ggX6_imputedCount_X3_refresh
set_option maxRecDepth 20000 in
theorem ggX6_imputedCount_X3_hasImputed : GoodIn wsX6_imputedCount wsX3_hasImputed := goodIn_r _ [130, 120, 20, 121, 122, 123, 71, 124, 73, 39, 6, 40, 145, 146, 147, 148, 149, 150, 151] (by decide +kernel) (by decide +kernel)
set_option maxRecDepth 20000 in
theorem gX6_imputedCount_X3_hasImputed : GoodIn wsX6_imputedCount (wsV RX6 144 RX3 yX3_hasImputed wsX3_hasImputed) := goodIn_app (goodIn_of _ (by decide +kernel)) ggX6_imputedCount_X3_hasImputed
theorem dX6_imputedCount_0 : decode cX6_imputedCount 0 = .ok (.iload_n 1, 1) := by decide +kernel
theorem dX6_imputedCount_1 : decode cX6_imputedCount 1 = .ok (.invokestatic 61, 3) := by decide +kernel
theorem dX6_imputedCount_4 : decode cX6_imputedCount 4 = .ok (.ifCond .ne 5, 3) := by decide +kernel
theorem dX6_imputedCount_7 : decode cX6_imputedCount 7 = .ok (.iconst (-1), 1) := by decide +kernel
theorem dX6_imputedCount_8 : decode cX6_imputedCount 8 = .ok (.ireturn, 1) := by decide +kernel
theorem dX6_imputedCount_9 : decode cX6_imputedCount 9 = .ok (.aload_n 0, 1) := by decide +kernel
theorem dX6_imputedCount_10 : decode cX6_imputedCount 10 = .ok (.getfield 35, 3) := by decide +kernel
theorem dX6_imputedCount_13 : decode cX6_imputedCount 13 = .ok (.invokevirtual 121, 3) := by decide +kernel
theorem dX6_imputedCount_16 : decode cX6_imputedCount 16 = .ok (.iconst 0, 1) := by decide +kernel
theorem dX6_imputedCount_17 : decode cX6_imputedCount 17 = .ok (.istore_n 2, 1) := by decide +kernel
theorem dX6_imputedCount_18 : decode cX6_imputedCount 18 = .ok (.iconst 0, 1) := by decide +kernel
theorem dX6_imputedCount_19 : decode cX6_imputedCount 19 = .ok (.istore_n 3, 1) := by decide +kernel
theorem dX6_imputedCount_20 : decode cX6_imputedCount 20 = .ok (.iload_n 3, 1) := by decide +kernel
theorem dX6_imputedCount_21 : decode cX6_imputedCount 21 = .ok (.aload_n 0, 1) := by decide +kernel
theorem dX6_imputedCount_22 : decode cX6_imputedCount 22 = .ok (.getfield 12, 3) := by decide +kernel
theorem dX6_imputedCount_25 : decode cX6_imputedCount 25 = .ok (.getfield 47, 3) := by decide +kernel
theorem dX6_imputedCount_28 : decode cX6_imputedCount 28 = .ok (.if_icmp .ge 24, 3) := by decide +kernel
theorem dX6_imputedCount_31 : decode cX6_imputedCount 31 = .ok (.aload_n 0, 1) := by decide +kernel
theorem dX6_imputedCount_32 : decode cX6_imputedCount 32 = .ok (.getfield 35, 3) := by decide +kernel
theorem dX6_imputedCount_35 : decode cX6_imputedCount 35 = .ok (.iload_n 3, 1) := by decide +kernel
theorem dX6_imputedCount_36 : decode cX6_imputedCount 36 = .ok (.iload_n 1, 1) := by decide +kernel
theorem dX6_imputedCount_37 : decode cX6_imputedCount 37 = .ok (.invokevirtual 144, 3) := by decide +kernel
theorem dX6_imputedCount_40 : decode cX6_imputedCount 40 = .ok (.ifCond .eq 6, 3) := by decide +kernel
theorem dX6_imputedCount_43 : decode cX6_imputedCount 43 = .ok (.iinc 2 1, 3) := by decide +kernel
theorem dX6_imputedCount_46 : decode cX6_imputedCount 46 = .ok (.iinc 3 1, 3) := by decide +kernel
theorem dX6_imputedCount_49 : decode cX6_imputedCount 49 = .ok (.goto (-29), 3) := by decide +kernel
theorem dX6_imputedCount_52 : decode cX6_imputedCount 52 = .ok (.iload_n 2, 1) := by decide +kernel
theorem dX6_imputedCount_53 : decode cX6_imputedCount 53 = .ok (.ireturn, 1) := by decide +kernel
set_option maxRecDepth 20000 in
theorem ggX6_matchedCount_X6_isStratum : GoodIn wsX6_matchedCount wsX6_isStratum := goodIn_r _ [6] (by decide +kernel) (by decide +kernel)
set_option maxRecDepth 20000 in
theorem gX6_matchedCount_X6_isStratum : GoodIn wsX6_matchedCount (va_wsS RX6 39 yX6_isStratum wsX6_isStratum) := goodIn_app (goodIn_of _ (by decide +kernel)) ggX6_matchedCount_X6_isStratum
set_option maxRecDepth 20000 in
theorem ggX6_matchedCount_X6_isMonth : GoodIn wsX6_matchedCount wsX6_isMonth := goodIn_r _ [9] (by decide +kernel) (by decide +kernel)
set_option maxRecDepth 20000 in
theorem gX6_matchedCount_X6_isMonth : GoodIn wsX6_matchedCount (va_wsS RX6 61 yX6_isMonth wsX6_isMonth) := goodIn_app (goodIn_of _ (by decide +kernel)) ggX6_matchedCount_X6_isMonth
set_option maxRecDepth 20000 in
theorem ggX6_matchedCount_X3_refresh : GoodIn wsX6_matchedCount wsX3_refresh := goodIn_r _ [14, 15, 16, 17, 18, 19, 20, 13, 21, 22, 23, 24, 25, 26, 27, 28, 29, 30, 31, 32, 33, 34, 35, 36, 37, 38, 39, 40, 41, 5, 42, 43, 44, 45, 46, 47, 48, 49, 50, 51, 52, 53, 54, 55, 56, 57, 58, 59, 60, 61, 62, 63, 64, 65, 66, 67, 68, 69, 70, 71, 72, 73, 74, 75, 76, 77, 78, 79, 80, 81, 82, 83, 84, 85, 86, 87, 88, 89, 90, 91, 92, 93, 94, 95, 96, 97, 98, 99, 100, 101, 102, 103, 104, 105, 106, 107, 108, 109, 110, 111, 112, 113, 114, 115, 116, 117, 118, 119, 120, 121, 122, 123, 124, 125, 126, 127, 128, 134, 135, 136, 137, 138, 139, 140, 141, 142, 143, 144, 145, 146, 147, 148, 149, 150] (by decide +kernel) (by decide +kernel)
set_option maxRecDepth 20000 in
theorem gX6_matchedCount_X3_refresh : GoodIn wsX6_matchedCount (wsV RX6 121 RX3 yX3_refresh wsX3_refresh) := goodIn_app (goodIn_of _ (by decide +kernel)) ggX6_matchedCount_X3_refresh
set_option maxRecDepth 20000 in
theorem ggX6_matchedCount_X2_countMatched : GoodIn wsX6_matchedCount wsX2_countMatched := goodIn_r _ [95, 90, 96, 97, 98, 99, 73, 100, 101, 75, 41, 5, 42, 148, 149, 150, 138, 139, 140, 141, 142, 143, 144, 145, 146, 147] (by decide +kernel) (by decide +kernel)
set_option maxRecDepth 20000 in
theorem gX6_matchedCount_X2_countMatched : GoodIn wsX6_matchedCount (wsV RX6 150 RX2 yX2_countMatched wsX2_countMatched) := goodIn_app (goodIn_of _ (by decide +kernel)) ggX6_matchedCount_X2_countMatched
theorem dX6_matchedCount_0 : decode cX6_matchedCount 0 = .ok (.iload_n 1, 1) := by decide +kernel
theorem dX6_matchedCount_1 : decode cX6_matchedCount 1 = .ok (.invokestatic 39, 3) := by decide +kernel
theorem dX6_matchedCount_4 : decode cX6_matchedCount 4 = .ok (.ifCond .eq 17, 3) := by decide +kernel
theorem dX6_matchedCount_7 : decode cX6_matchedCount 7 = .ok (.iload_n 2, 1) := by decide +kernel
theorem dX6_matchedCount_8 : decode cX6_matchedCount 8 = .ok (.invokestatic 61, 3) := by decide +kernel
theorem dX6_matchedCount_11 : decode cX6_matchedCount 11 = .ok (.ifCond .eq 10, 3) := by decide +kernel
theorem dX6_matchedCount_14 : decode cX6_matchedCount 14 = .ok (.iload_n 3, 1) := by decide +kernel
theorem dX6_matchedCount_15 : decode cX6_matchedCount 15 = .ok (.invokestatic 61, 3) := by decide +kernel
theorem dX6_matchedCount_18 : decode cX6_matchedCount 18 = .ok (.ifCond .ne 5, 3) := by decide +kernel
theorem dX6_matchedCount_21 : decode cX6_matchedCount 21 = .ok (.iconst (-1), 1) := by decide +kernel
theorem dX6_matchedCount_22 : decode cX6_matchedCount 22 = .ok (.ireturn, 1) := by decide +kernel
theorem dX6_matchedCount_23 : decode cX6_matchedCount 23 = .ok (.aload_n 0, 1) := by decide +kernel
theorem dX6_matchedCount_24 : decode cX6_matchedCount 24 = .ok (.getfield 35, 3) := by decide +kernel
theorem dX6_matchedCount_27 : decode cX6_matchedCount 27 = .ok (.invokevirtual 121, 3) := by decide +kernel
theorem dX6_matchedCount_30 : decode cX6_matchedCount 30 = .ok (.aload_n 0, 1) := by decide +kernel
theorem dX6_matchedCount_31 : decode cX6_matchedCount 31 = .ok (.getfield 35, 3) := by decide +kernel
theorem dX6_matchedCount_34 : decode cX6_matchedCount 34 = .ok (.getfield 147, 3) := by decide +kernel
theorem dX6_matchedCount_37 : decode cX6_matchedCount 37 = .ok (.iload_n 1, 1) := by decide +kernel
theorem dX6_matchedCount_38 : decode cX6_matchedCount 38 = .ok (.iload_n 2, 1) := by decide +kernel
theorem dX6_matchedCount_39 : decode cX6_matchedCount 39 = .ok (.iload_n 3, 1) := by decide +kernel
theorem dX6_matchedCount_40 : decode cX6_matchedCount 40 = .ok (.invokevirtual 150, 3) := by decide +kernel
theorem dX6_matchedCount_43 : decode cX6_matchedCount 43 = .ok (.ireturn, 1) := by decide +kernel
set_option maxRecDepth 20000 in
theorem ggX6_movementBits_X6_isStratum : GoodIn wsX6_movementBits wsX6_isStratum := goodIn_r _ [6] (by decide +kernel) (by decide +kernel)
set_option maxRecDepth 20000 in
theorem gX6_movementBits_X6_isStratum : GoodIn wsX6_movementBits (va_wsS RX6 39 yX6_isStratum wsX6_isStratum) := goodIn_app (goodIn_of _ (by decide +kernel)) ggX6_movementBits_X6_isStratum
set_option maxRecDepth 20000 in
theorem ggX6_movementBits_X6_isMonth : GoodIn wsX6_movementBits wsX6_isMonth := goodIn_r _ [9] (by decide +kernel) (by decide +kernel)
set_option maxRecDepth 20000 in
theorem gX6_movementBits_X6_isMonth : GoodIn wsX6_movementBits (va_wsS RX6 61 yX6_isMonth wsX6_isMonth) := goodIn_app (goodIn_of _ (by decide +kernel)) ggX6_movementBits_X6_isMonth
set_option maxRecDepth 20000 in
theorem ggX6_movementBits_X3_refresh : GoodIn wsX6_movementBits wsX3_refresh := goodIn_r _ [14, 15, 16, 17, 18, 19, 20, 13, 21, 22, 23, 24, 25, 26, 27, 28, 29, 30, 31, 32, 33, 34, 35, 36, 37, 38, 39, 40, 41, 5, 42, 43, 44, 45, 46, 47, 48, 49, 50, 51, 52, 53, 54, 55, 56, 57, 58, 59, 60, 61, 62, 63, 64, 65, 66, 67, 68, 69, 70, 71, 72, 73, 74, 75, 76, 77, 78, 79, 80, 81, 82, 83, 84, 85, 86, 87, 88, 89, 90, 91, 92, 93, 94, 95, 96, 97, 98, 99, 100, 101, 102, 103, 104, 105, 106, 107, 108, 109, 110, 111, 112, 113, 114, 115, 116, 117, 118, 119, 120, 121, 122, 123, 124, 125, 126, 127, 128, 140, 141, 142, 143, 144, 145, 146, 147, 148, 149, 150, 151, 152, 153, 154, 155, 156] (by decide +kernel) (by decide +kernel)
set_option maxRecDepth 20000 in
theorem gX6_movementBits_X3_refresh : GoodIn wsX6_movementBits (wsV RX6 121 RX3 yX3_refresh wsX3_refresh) := goodIn_app (goodIn_of _ (by decide +kernel)) ggX6_movementBits_X3_refresh
set_option maxRecDepth 20000 in
theorem ggX6_movementBits_X2_movement : GoodIn wsX6_movementBits wsX2_movement := goodIn_r _ [89, 90, 91, 92, 93, 94, 73, 95, 96, 97, 98, 99, 100, 101, 75, 41, 5, 42, 102, 103, 104, 105, 106, 107, 108, 109, 76, 110, 111, 54, 112, 56, 57, 58, 63, 64, 65, 66, 113, 53, 55, 59, 60, 61, 62, 114, 115, 116, 117, 154, 155, 156, 144, 145, 146, 147, 148, 149, 150, 151, 152, 153] (by decide +kernel) (by decide +kernel)
set_option maxRecDepth 20000 in
theorem gX6_movementBits_X2_movement : GoodIn wsX6_movementBits (wsV RX6 153 RX2 yX2_movement wsX2_movement) := goodIn_app (goodIn_of _ (by decide +kernel)) ggX6_movementBits_X2_movement
set_option maxRecDepth 20000 in
theorem ggX6_movementBits_X5_bits : GoodIn wsX6_movementBits wsX5_bits := goodIn_r _ [132, 133, 134, 135, 56, 57, 54, 58, 59, 60, 61, 62] (by decide +kernel) (by decide +kernel)
set_option maxRecDepth 20000 in
theorem gX6_movementBits_X5_bits : GoodIn wsX6_movementBits (va_wsS RX6 138 yX5_bits wsX5_bits) := goodIn_app (goodIn_of _ (by decide +kernel)) ggX6_movementBits_X5_bits
theorem dX6_movementBits_0 : decode cX6_movementBits 0 = .ok (.iload_n 1, 1) := by decide +kernel
theorem dX6_movementBits_1 : decode cX6_movementBits 1 = .ok (.invokestatic 39, 3) := by decide +kernel
theorem dX6_movementBits_4 : decode cX6_movementBits 4 = .ok (.ifCond .eq 17, 3) := by decide +kernel
theorem dX6_movementBits_7 : decode cX6_movementBits 7 = .ok (.iload_n 2, 1) := by decide +kernel
theorem dX6_movementBits_8 : decode cX6_movementBits 8 = .ok (.invokestatic 61, 3) := by decide +kernel
theorem dX6_movementBits_11 : decode cX6_movementBits 11 = .ok (.ifCond .eq 10, 3) := by decide +kernel
theorem dX6_movementBits_14 : decode cX6_movementBits 14 = .ok (.iload_n 3, 1) := by decide +kernel
theorem dX6_movementBits_15 : decode cX6_movementBits 15 = .ok (.invokestatic 61, 3) := by decide +kernel
theorem dX6_movementBits_18 : decode cX6_movementBits 18 = .ok (.ifCond .ne 5, 3) := by decide +kernel
theorem dX6_movementBits_21 : decode cX6_movementBits 21 = .ok (.iconst (-1), 1) := by decide +kernel
theorem dX6_movementBits_22 : decode cX6_movementBits 22 = .ok (.ireturn, 1) := by decide +kernel
theorem dX6_movementBits_23 : decode cX6_movementBits 23 = .ok (.aload_n 0, 1) := by decide +kernel
theorem dX6_movementBits_24 : decode cX6_movementBits 24 = .ok (.getfield 35, 3) := by decide +kernel
theorem dX6_movementBits_27 : decode cX6_movementBits 27 = .ok (.invokevirtual 121, 3) := by decide +kernel
theorem dX6_movementBits_30 : decode cX6_movementBits 30 = .ok (.aload_n 0, 1) := by decide +kernel
theorem dX6_movementBits_31 : decode cX6_movementBits 31 = .ok (.getfield 35, 3) := by decide +kernel
theorem dX6_movementBits_34 : decode cX6_movementBits 34 = .ok (.getfield 147, 3) := by decide +kernel
theorem dX6_movementBits_37 : decode cX6_movementBits 37 = .ok (.iload_n 1, 1) := by decide +kernel
theorem dX6_movementBits_38 : decode cX6_movementBits 38 = .ok (.iload_n 2, 1) := by decide +kernel
theorem dX6_movementBits_39 : decode cX6_movementBits 39 = .ok (.iload_n 3, 1) := by decide +kernel
theorem dX6_movementBits_40 : decode cX6_movementBits 40 = .ok (.invokevirtual 153, 3) := by decide +kernel
theorem dX6_movementBits_43 : decode cX6_movementBits 43 = .ok (.invokestatic 138, 3) := by decide +kernel
theorem dX6_movementBits_46 : decode cX6_movementBits 46 = .ok (.ireturn, 1) := by decide +kernel
set_option maxRecDepth 20000 in
theorem ggX6_greatestRise_X6_isStratum : GoodIn wsX6_greatestRise wsX6_isStratum := goodIn_r _ [6] (by decide +kernel) (by decide +kernel)
set_option maxRecDepth 20000 in
theorem gX6_greatestRise_X6_isStratum : GoodIn wsX6_greatestRise (va_wsS RX6 39 yX6_isStratum wsX6_isStratum) := goodIn_app (goodIn_of _ (by decide +kernel)) ggX6_greatestRise_X6_isStratum
set_option maxRecDepth 20000 in
theorem ggX6_greatestRise_X6_isMonth : GoodIn wsX6_greatestRise wsX6_isMonth := goodIn_r _ [9] (by decide +kernel) (by decide +kernel)
set_option maxRecDepth 20000 in
theorem gX6_greatestRise_X6_isMonth : GoodIn wsX6_greatestRise (va_wsS RX6 61 yX6_isMonth wsX6_isMonth) := goodIn_app (goodIn_of _ (by decide +kernel)) ggX6_greatestRise_X6_isMonth
set_option maxRecDepth 20000 in
theorem ggX6_greatestRise_X3_refresh : GoodIn wsX6_greatestRise wsX3_refresh := goodIn_r _ [14, 15, 16, 17, 18, 19, 20, 13, 21, 22, 23, 24, 25, 26, 27, 28, 29, 30, 31, 32, 33, 34, 35, 36, 37, 38, 39, 40, 41, 5, 42, 43, 44, 45, 46, 47, 48, 49, 50, 51, 52, 53, 54, 55, 56, 57, 58, 59, 60, 61, 62, 63, 64, 65, 66, 67, 68, 69, 70, 71, 72, 73, 74, 75, 76, 77, 78, 79, 80, 81, 82, 83, 84, 85, 86, 87, 88, 89, 90, 91, 92, 93, 94, 95, 96, 97, 98, 99, 100, 101, 102, 103, 104, 105, 106, 107, 108, 109, 110, 111, 112, 113, 114, 115, 116, 117, 118, 119, 120, 121, 122, 123, 124, 125, 126, 127, 128, 137, 138, 139, 140, 141, 142, 143, 144, 145, 146, 147, 148, 149, 150, 151, 152, 153] (by decide +kernel) (by decide +kernel)
set_option maxRecDepth 20000 in
theorem gX6_greatestRise_X3_refresh : GoodIn wsX6_greatestRise (wsV RX6 121 RX3 yX3_refresh wsX3_refresh) := goodIn_app (goodIn_of _ (by decide +kernel)) ggX6_greatestRise_X3_refresh
set_option maxRecDepth 20000 in
theorem ggX6_greatestRise_X2_steepest : GoodIn wsX6_greatestRise wsX2_steepest := goodIn_r _ [132, 90, 96, 97, 98, 99, 73, 100, 101, 75, 41, 5, 42, 106, 107, 108, 109, 76, 113, 53, 54, 55, 56, 57, 58, 59, 60, 61, 62, 63, 64, 65, 66, 151, 152, 153, 141, 142, 143, 144, 145, 146, 147, 148, 149, 150] (by decide +kernel) (by decide +kernel)
set_option maxRecDepth 20000 in
theorem gX6_greatestRise_X2_steepest : GoodIn wsX6_greatestRise (wsV RX6 157 RX2 yX2_steepest wsX2_steepest) := goodIn_app (goodIn_of _ (by decide +kernel)) ggX6_greatestRise_X2_steepest
theorem dX6_greatestRise_0 : decode cX6_greatestRise 0 = .ok (.iload_n 1, 1) := by decide +kernel
theorem dX6_greatestRise_1 : decode cX6_greatestRise 1 = .ok (.invokestatic 39, 3) := by decide +kernel
theorem dX6_greatestRise_4 : decode cX6_greatestRise 4 = .ok (.ifCond .eq 17, 3) := by decide +kernel
theorem dX6_greatestRise_7 : decode cX6_greatestRise 7 = .ok (.iload_n 2, 1) := by decide +kernel
theorem dX6_greatestRise_8 : decode cX6_greatestRise 8 = .ok (.invokestatic 61, 3) := by decide +kernel
theorem dX6_greatestRise_11 : decode cX6_greatestRise 11 = .ok (.ifCond .eq 10, 3) := by decide +kernel
theorem dX6_greatestRise_14 : decode cX6_greatestRise 14 = .ok (.iload_n 3, 1) := by decide +kernel
theorem dX6_greatestRise_15 : decode cX6_greatestRise 15 = .ok (.invokestatic 61, 3) := by decide +kernel
theorem dX6_greatestRise_18 : decode cX6_greatestRise 18 = .ok (.ifCond .ne 5, 3) := by decide +kernel
theorem dX6_greatestRise_21 : decode cX6_greatestRise 21 = .ok (.iconst (-1), 1) := by decide +kernel
theorem dX6_greatestRise_22 : decode cX6_greatestRise 22 = .ok (.ireturn, 1) := by decide +kernel
theorem dX6_greatestRise_23 : decode cX6_greatestRise 23 = .ok (.aload_n 0, 1) := by decide +kernel
theorem dX6_greatestRise_24 : decode cX6_greatestRise 24 = .ok (.getfield 35, 3) := by decide +kernel
theorem dX6_greatestRise_27 : decode cX6_greatestRise 27 = .ok (.invokevirtual 121, 3) := by decide +kernel
theorem dX6_greatestRise_30 : decode cX6_greatestRise 30 = .ok (.aload_n 0, 1) := by decide +kernel
theorem dX6_greatestRise_31 : decode cX6_greatestRise 31 = .ok (.getfield 35, 3) := by decide +kernel
theorem dX6_greatestRise_34 : decode cX6_greatestRise 34 = .ok (.getfield 147, 3) := by decide +kernel
theorem dX6_greatestRise_37 : decode cX6_greatestRise 37 = .ok (.iload_n 1, 1) := by decide +kernel
theorem dX6_greatestRise_38 : decode cX6_greatestRise 38 = .ok (.iload_n 2, 1) := by decide +kernel
theorem dX6_greatestRise_39 : decode cX6_greatestRise 39 = .ok (.iload_n 3, 1) := by decide +kernel
theorem dX6_greatestRise_40 : decode cX6_greatestRise 40 = .ok (.invokevirtual 157, 3) := by decide +kernel
theorem dX6_greatestRise_43 : decode cX6_greatestRise 43 = .ok (.istore 4, 2) := by decide +kernel
theorem dX6_greatestRise_45 : decode cX6_greatestRise 45 = .ok (.iload 4, 2) := by decide +kernel
theorem dX6_greatestRise_47 : decode cX6_greatestRise 47 = .ok (.iconst (-1), 1) := by decide +kernel
theorem dX6_greatestRise_48 : decode cX6_greatestRise 48 = .ok (.if_icmp .ne 8, 3) := by decide +kernel
theorem dX6_greatestRise_51 : decode cX6_greatestRise 51 = .ok (.bipush (-9), 2) := by decide +kernel
theorem dX6_greatestRise_53 : decode cX6_greatestRise 53 = .ok (.goto 5, 3) := by decide +kernel
theorem dX6_greatestRise_56 : decode cX6_greatestRise 56 = .ok (.iload 4, 2) := by decide +kernel
theorem dX6_greatestRise_58 : decode cX6_greatestRise 58 = .ok (.ireturn, 1) := by decide +kernel
set_option maxRecDepth 20000 in
theorem ggX6_directIndex_X6_isStratum : GoodIn wsX6_directIndex wsX6_isStratum := goodIn_r _ [5] (by decide +kernel) (by decide +kernel)
set_option maxRecDepth 20000 in
theorem gX6_directIndex_X6_isStratum : GoodIn wsX6_directIndex (va_wsS RX6 39 yX6_isStratum wsX6_isStratum) := goodIn_app (goodIn_of _ (by decide +kernel)) ggX6_directIndex_X6_isStratum
set_option maxRecDepth 20000 in
theorem ggX6_directIndex_X6_isMonth : GoodIn wsX6_directIndex wsX6_isMonth := goodIn_r _ [8] (by decide +kernel) (by decide +kernel)
set_option maxRecDepth 20000 in
theorem gX6_directIndex_X6_isMonth : GoodIn wsX6_directIndex (va_wsS RX6 61 yX6_isMonth wsX6_isMonth) := goodIn_app (goodIn_of _ (by decide +kernel)) ggX6_directIndex_X6_isMonth
set_option maxRecDepth 20000 in
theorem ggX6_directIndex_X3_refresh : GoodIn wsX6_directIndex wsX3_refresh := goodIn_r _ [13, 14, 15, 16, 17, 18, 19, 12, 20, 21, 22, 23, 24, 25, 26, 27, 28, 29, 30, 31, 32, 33, 34, 35, 36, 37, 38, 39, 40, 4, 41, 42, 43, 44, 45, 46, 47, 48, 49, 50, 51, 52, 53, 54, 55, 56, 57, 58, 59, 60, 61, 62, 63, 64, 65, 66, 67, 68, 69, 70, 71, 72, 73, 74, 75, 76, 77, 78, 79, 80, 81, 82, 83, 84, 85, 86, 87, 88, 89, 90, 91, 92, 93, 94, 95, 96, 97, 98, 99, 100, 101, 102, 103, 104, 105, 106, 107, 108, 109, 110, 111, 112, 113, 114, 115, 116, 117, 118, 119, 120, 121, 122, 123, 124, 125, 126, 127, 147, 148, 149, 150, 151, 152, 153, 154, 155, 156, 157, 158, 159, 160, 161, 162, 163] (by decide +kernel) (by decide +kernel)
set_option maxRecDepth 20000 in
theorem gX6_directIndex_X3_refresh : GoodIn wsX6_directIndex (wsV RX6 121 RX3 yX3_refresh wsX3_refresh) := goodIn_app (goodIn_of _ (by decide +kernel)) ggX6_directIndex_X3_refresh
set_option maxRecDepth 20000 in
theorem ggX6_directIndex_X3_hasDirect : GoodIn wsX6_directIndex wsX3_hasDirect := goodIn_r _ [131, 121, 132, 92, 93, 72, 94, 89, 95, 96, 97, 98, 99, 100, 74, 40, 4, 41, 147, 148, 149, 150, 161, 162, 163, 151, 152, 153, 154, 155, 156, 157, 158, 159, 160] (by decide +kernel) (by decide +kernel)
set_option maxRecDepth 20000 in
theorem gX6_directIndex_X3_hasDirect : GoodIn wsX6_directIndex (wsV RX6 160 RX3 yX3_hasDirect wsX3_hasDirect) := goodIn_app (goodIn_of _ (by decide +kernel)) ggX6_directIndex_X3_hasDirect
set_option maxRecDepth 20000 in
theorem ggX6_directIndex_X3_direct : GoodIn wsX6_directIndex wsX3_direct := goodIn_r _ [136, 121, 137, 85, 86, 87, 72, 88, 89, 90, 91, 92, 93, 94, 95, 96, 97, 98, 99, 100, 74, 40, 4, 41, 101, 102, 103, 104, 105, 106, 107, 108, 75, 109, 110, 53, 111, 55, 56, 57, 62, 63, 64, 65, 112, 52, 54, 58, 59, 60, 61, 113, 114, 115, 116, 127, 67, 68, 147, 148, 149, 150, 161, 162, 163, 151, 152, 153, 154, 155, 156, 157, 158, 159, 160] (by decide +kernel) (by decide +kernel)
set_option maxRecDepth 20000 in
theorem gX6_directIndex_X3_direct : GoodIn wsX6_directIndex (wsV RX6 163 RX3 yX3_direct wsX3_direct) := goodIn_app (goodIn_of _ (by decide +kernel)) ggX6_directIndex_X3_direct
set_option maxRecDepth 20000 in
theorem ggX6_directIndex_X5_hundredths : GoodIn wsX6_directIndex wsX5_hundredths := goodIn_r _ [140, 141, 142, 55, 56, 53, 57] (by decide +kernel) (by decide +kernel)
set_option maxRecDepth 20000 in
theorem gX6_directIndex_X5_hundredths : GoodIn wsX6_directIndex (va_wsS RX6 166 yX5_hundredths wsX5_hundredths) := goodIn_app (goodIn_of _ (by decide +kernel)) ggX6_directIndex_X5_hundredths
theorem dX6_directIndex_0 : decode cX6_directIndex 0 = .ok (.iload_n 1, 1) := by decide +kernel
theorem dX6_directIndex_1 : decode cX6_directIndex 1 = .ok (.invokestatic 39, 3) := by decide +kernel
theorem dX6_directIndex_4 : decode cX6_directIndex 4 = .ok (.ifCond .eq 17, 3) := by decide +kernel
theorem dX6_directIndex_7 : decode cX6_directIndex 7 = .ok (.iload_n 2, 1) := by decide +kernel
theorem dX6_directIndex_8 : decode cX6_directIndex 8 = .ok (.invokestatic 61, 3) := by decide +kernel
theorem dX6_directIndex_11 : decode cX6_directIndex 11 = .ok (.ifCond .eq 10, 3) := by decide +kernel
theorem dX6_directIndex_14 : decode cX6_directIndex 14 = .ok (.iload_n 3, 1) := by decide +kernel
theorem dX6_directIndex_15 : decode cX6_directIndex 15 = .ok (.invokestatic 61, 3) := by decide +kernel
theorem dX6_directIndex_18 : decode cX6_directIndex 18 = .ok (.ifCond .ne 5, 3) := by decide +kernel
theorem dX6_directIndex_21 : decode cX6_directIndex 21 = .ok (.iconst (-1), 1) := by decide +kernel
theorem dX6_directIndex_22 : decode cX6_directIndex 22 = .ok (.ireturn, 1) := by decide +kernel
theorem dX6_directIndex_23 : decode cX6_directIndex 23 = .ok (.aload_n 0, 1) := by decide +kernel
theorem dX6_directIndex_24 : decode cX6_directIndex 24 = .ok (.getfield 35, 3) := by decide +kernel
theorem dX6_directIndex_27 : decode cX6_directIndex 27 = .ok (.invokevirtual 121, 3) := by decide +kernel
theorem dX6_directIndex_30 : decode cX6_directIndex 30 = .ok (.aload_n 0, 1) := by decide +kernel
theorem dX6_directIndex_31 : decode cX6_directIndex 31 = .ok (.getfield 35, 3) := by decide +kernel
theorem dX6_directIndex_34 : decode cX6_directIndex 34 = .ok (.iload_n 1, 1) := by decide +kernel
theorem dX6_directIndex_35 : decode cX6_directIndex 35 = .ok (.iload_n 2, 1) := by decide +kernel
theorem dX6_directIndex_36 : decode cX6_directIndex 36 = .ok (.iload_n 3, 1) := by decide +kernel
theorem dX6_directIndex_37 : decode cX6_directIndex 37 = .ok (.invokevirtual 160, 3) := by decide +kernel
theorem dX6_directIndex_40 : decode cX6_directIndex 40 = .ok (.ifCond .ne 6, 3) := by decide +kernel
theorem dX6_directIndex_43 : decode cX6_directIndex 43 = .ok (.bipush (-9), 2) := by decide +kernel
theorem dX6_directIndex_45 : decode cX6_directIndex 45 = .ok (.ireturn, 1) := by decide +kernel
theorem dX6_directIndex_46 : decode cX6_directIndex 46 = .ok (.aload_n 0, 1) := by decide +kernel
theorem dX6_directIndex_47 : decode cX6_directIndex 47 = .ok (.getfield 35, 3) := by decide +kernel
theorem dX6_directIndex_50 : decode cX6_directIndex 50 = .ok (.iload_n 1, 1) := by decide +kernel
theorem dX6_directIndex_51 : decode cX6_directIndex 51 = .ok (.iload_n 2, 1) := by decide +kernel
theorem dX6_directIndex_52 : decode cX6_directIndex 52 = .ok (.iload_n 3, 1) := by decide +kernel
theorem dX6_directIndex_53 : decode cX6_directIndex 53 = .ok (.invokevirtual 163, 3) := by decide +kernel
theorem dX6_directIndex_56 : decode cX6_directIndex 56 = .ok (.invokestatic 166, 3) := by decide +kernel
theorem dX6_directIndex_59 : decode cX6_directIndex 59 = .ok (.ireturn, 1) := by decide +kernel
set_option maxRecDepth 20000 in
theorem ggX6_chainedIndex_X6_isStratum : GoodIn wsX6_chainedIndex wsX6_isStratum := goodIn_r _ [5] (by decide +kernel) (by decide +kernel)
set_option maxRecDepth 20000 in
theorem gX6_chainedIndex_X6_isStratum : GoodIn wsX6_chainedIndex (va_wsS RX6 39 yX6_isStratum wsX6_isStratum) := goodIn_app (goodIn_of _ (by decide +kernel)) ggX6_chainedIndex_X6_isStratum
set_option maxRecDepth 20000 in
theorem ggX6_chainedIndex_X6_isMonth : GoodIn wsX6_chainedIndex wsX6_isMonth := goodIn_r _ [8] (by decide +kernel) (by decide +kernel)
set_option maxRecDepth 20000 in
theorem gX6_chainedIndex_X6_isMonth : GoodIn wsX6_chainedIndex (va_wsS RX6 61 yX6_isMonth wsX6_isMonth) := goodIn_app (goodIn_of _ (by decide +kernel)) ggX6_chainedIndex_X6_isMonth
set_option maxRecDepth 20000 in
theorem ggX6_chainedIndex_X3_refresh : GoodIn wsX6_chainedIndex wsX3_refresh := goodIn_r _ [13, 14, 15, 16, 17, 18, 19, 12, 20, 21, 22, 23, 24, 25, 26, 27, 28, 29, 30, 31, 32, 33, 34, 35, 36, 37, 38, 39, 40, 4, 41, 42, 43, 44, 45, 46, 47, 48, 49, 50, 51, 52, 53, 54, 55, 56, 57, 58, 59, 60, 61, 62, 63, 64, 65, 66, 67, 68, 69, 70, 71, 72, 73, 74, 75, 76, 77, 78, 79, 80, 81, 82, 83, 84, 85, 86, 87, 88, 89, 90, 91, 92, 93, 94, 95, 96, 97, 98, 99, 100, 101, 102, 103, 104, 105, 106, 107, 108, 109, 110, 111, 112, 113, 114, 115, 116, 117, 118, 119, 120, 121, 122, 123, 124, 125, 126, 127, 142, 143, 144, 145, 146, 147, 148, 149, 150, 151, 152, 153, 154, 155, 156, 157, 158] (by decide +kernel) (by decide +kernel)
set_option maxRecDepth 20000 in
theorem gX6_chainedIndex_X3_refresh : GoodIn wsX6_chainedIndex (wsV RX6 121 RX3 yX3_refresh wsX3_refresh) := goodIn_app (goodIn_of _ (by decide +kernel)) ggX6_chainedIndex_X3_refresh
set_option maxRecDepth 20000 in
theorem ggX6_chainedIndex_X3_chained : GoodIn wsX6_chainedIndex wsX3_chained := goodIn_r _ [131, 132, 21, 85, 86, 87, 72, 88, 89, 90, 91, 92, 93, 94, 95, 96, 97, 98, 99, 100, 74, 40, 4, 41, 101, 102, 103, 104, 105, 106, 107, 108, 75, 109, 110, 53, 111, 55, 56, 57, 62, 63, 64, 65, 112, 52, 54, 58, 59, 60, 61, 113, 114, 115, 116, 127, 67, 68, 142, 143, 144, 145, 156, 157, 158, 146, 147, 148, 149, 150, 151, 152, 153, 154, 155] (by decide +kernel) (by decide +kernel)
set_option maxRecDepth 20000 in
theorem gX6_chainedIndex_X3_chained : GoodIn wsX6_chainedIndex (wsV RX6 169 RX3 yX3_chained wsX3_chained) := goodIn_app (goodIn_of _ (by decide +kernel)) ggX6_chainedIndex_X3_chained
set_option maxRecDepth 20000 in
theorem ggX6_chainedIndex_X5_hundredths : GoodIn wsX6_chainedIndex wsX5_hundredths := goodIn_r _ [135, 136, 137, 55, 56, 53, 57] (by decide +kernel) (by decide +kernel)
set_option maxRecDepth 20000 in
theorem gX6_chainedIndex_X5_hundredths : GoodIn wsX6_chainedIndex (va_wsS RX6 166 yX5_hundredths wsX5_hundredths) := goodIn_app (goodIn_of _ (by decide +kernel)) ggX6_chainedIndex_X5_hundredths
theorem dX6_chainedIndex_0 : decode cX6_chainedIndex 0 = .ok (.iload_n 1, 1) := by decide +kernel
theorem dX6_chainedIndex_1 : decode cX6_chainedIndex 1 = .ok (.invokestatic 39, 3) := by decide +kernel
theorem dX6_chainedIndex_4 : decode cX6_chainedIndex 4 = .ok (.ifCond .eq 22, 3) := by decide +kernel
theorem dX6_chainedIndex_7 : decode cX6_chainedIndex 7 = .ok (.iload_n 2, 1) := by decide +kernel
theorem dX6_chainedIndex_8 : decode cX6_chainedIndex 8 = .ok (.invokestatic 61, 3) := by decide +kernel
theorem dX6_chainedIndex_11 : decode cX6_chainedIndex 11 = .ok (.ifCond .eq 15, 3) := by decide +kernel
theorem dX6_chainedIndex_14 : decode cX6_chainedIndex 14 = .ok (.iload_n 3, 1) := by decide +kernel
theorem dX6_chainedIndex_15 : decode cX6_chainedIndex 15 = .ok (.invokestatic 61, 3) := by decide +kernel
theorem dX6_chainedIndex_18 : decode cX6_chainedIndex 18 = .ok (.ifCond .eq 8, 3) := by decide +kernel
theorem dX6_chainedIndex_21 : decode cX6_chainedIndex 21 = .ok (.iload_n 3, 1) := by decide +kernel
theorem dX6_chainedIndex_22 : decode cX6_chainedIndex 22 = .ok (.iload_n 2, 1) := by decide +kernel
theorem dX6_chainedIndex_23 : decode cX6_chainedIndex 23 = .ok (.if_icmp .ge 5, 3) := by decide +kernel
theorem dX6_chainedIndex_26 : decode cX6_chainedIndex 26 = .ok (.iconst (-1), 1) := by decide +kernel
theorem dX6_chainedIndex_27 : decode cX6_chainedIndex 27 = .ok (.ireturn, 1) := by decide +kernel
theorem dX6_chainedIndex_28 : decode cX6_chainedIndex 28 = .ok (.aload_n 0, 1) := by decide +kernel
theorem dX6_chainedIndex_29 : decode cX6_chainedIndex 29 = .ok (.getfield 35, 3) := by decide +kernel
theorem dX6_chainedIndex_32 : decode cX6_chainedIndex 32 = .ok (.invokevirtual 121, 3) := by decide +kernel
theorem dX6_chainedIndex_35 : decode cX6_chainedIndex 35 = .ok (.aload_n 0, 1) := by decide +kernel
theorem dX6_chainedIndex_36 : decode cX6_chainedIndex 36 = .ok (.getfield 35, 3) := by decide +kernel
theorem dX6_chainedIndex_39 : decode cX6_chainedIndex 39 = .ok (.iload_n 1, 1) := by decide +kernel
theorem dX6_chainedIndex_40 : decode cX6_chainedIndex 40 = .ok (.iload_n 2, 1) := by decide +kernel
theorem dX6_chainedIndex_41 : decode cX6_chainedIndex 41 = .ok (.iload_n 3, 1) := by decide +kernel
theorem dX6_chainedIndex_42 : decode cX6_chainedIndex 42 = .ok (.invokevirtual 169, 3) := by decide +kernel
theorem dX6_chainedIndex_45 : decode cX6_chainedIndex 45 = .ok (.invokestatic 166, 3) := by decide +kernel
theorem dX6_chainedIndex_48 : decode cX6_chainedIndex 48 = .ok (.ireturn, 1) := by decide +kernel
set_option maxRecDepth 20000 in
theorem ggX6_drift_X6_isStratum : GoodIn wsX6_drift wsX6_isStratum := goodIn_r _ [6] (by decide +kernel) (by decide +kernel)
set_option maxRecDepth 20000 in
theorem gX6_drift_X6_isStratum : GoodIn wsX6_drift (va_wsS RX6 39 yX6_isStratum wsX6_isStratum) := goodIn_app (goodIn_of _ (by decide +kernel)) ggX6_drift_X6_isStratum
set_option maxRecDepth 20000 in
theorem ggX6_drift_X6_isMonth : GoodIn wsX6_drift wsX6_isMonth := goodIn_r _ [9] (by decide +kernel) (by decide +kernel)
set_option maxRecDepth 20000 in
theorem gX6_drift_X6_isMonth : GoodIn wsX6_drift (va_wsS RX6 61 yX6_isMonth wsX6_isMonth) := goodIn_app (goodIn_of _ (by decide +kernel)) ggX6_drift_X6_isMonth
set_option maxRecDepth 20000 in
theorem ggX6_drift_X3_refresh : GoodIn wsX6_drift wsX3_refresh := goodIn_r _ [14, 15, 16, 17, 18, 19, 20, 13, 21, 22, 23, 24, 25, 26, 27, 28, 29, 30, 31, 32, 33, 34, 35, 36, 37, 38, 39, 40, 41, 5, 42, 43, 44, 45, 46, 47, 48, 49, 50, 51, 52, 53, 54, 55, 56, 57, 58, 59, 60, 61, 62, 63, 64, 65, 66, 67, 68, 69, 70, 71, 72, 73, 74, 75, 76, 77, 78, 79, 80, 81, 82, 83, 84, 85, 86, 87, 88, 89, 90, 91, 92, 93, 94, 95, 96, 97, 98, 99, 100, 101, 102, 103, 104, 105, 106, 107, 108, 109, 110, 111, 112, 113, 114, 115, 116, 117, 118, 119, 120, 121, 122, 123, 124, 125, 126, 127, 128, 152, 153, 154, 155, 156, 157, 158, 159, 160, 161, 162, 163, 164, 165, 166, 167, 168] (by decide +kernel) (by decide +kernel)
set_option maxRecDepth 20000 in
theorem gX6_drift_X3_refresh : GoodIn wsX6_drift (wsV RX6 121 RX3 yX3_refresh wsX3_refresh) := goodIn_app (goodIn_of _ (by decide +kernel)) ggX6_drift_X3_refresh
set_option maxRecDepth 20000 in
theorem ggX6_drift_X3_hasDirect : GoodIn wsX6_drift wsX3_hasDirect := goodIn_r _ [132, 122, 133, 93, 94, 73, 95, 90, 96, 97, 98, 99, 100, 101, 75, 41, 5, 42, 152, 153, 154, 155, 166, 167, 168, 156, 157, 158, 159, 160, 161, 162, 163, 164, 165] (by decide +kernel) (by decide +kernel)
set_option maxRecDepth 20000 in
theorem gX6_drift_X3_hasDirect : GoodIn wsX6_drift (wsV RX6 160 RX3 yX3_hasDirect wsX3_hasDirect) := goodIn_app (goodIn_of _ (by decide +kernel)) ggX6_drift_X3_hasDirect
set_option maxRecDepth 20000 in
theorem ggX6_drift_X3_chained : GoodIn wsX6_drift wsX3_chained := goodIn_r _ [137, 138, 22, 86, 87, 88, 73, 89, 90, 91, 92, 93, 94, 95, 96, 97, 98, 99, 100, 101, 75, 41, 5, 42, 102, 103, 104, 105, 106, 107, 108, 109, 76, 110, 111, 54, 112, 56, 57, 58, 63, 64, 65, 66, 113, 53, 55, 59, 60, 61, 62, 114, 115, 116, 117, 128, 68, 69, 152, 153, 154, 155, 166, 167, 168, 156, 157, 158, 159, 160, 161, 162, 163, 164, 165] (by decide +kernel) (by decide +kernel)
set_option maxRecDepth 20000 in
theorem gX6_drift_X3_chained : GoodIn wsX6_drift (wsV RX6 169 RX3 yX3_chained wsX3_chained) := goodIn_app (goodIn_of _ (by decide +kernel)) ggX6_drift_X3_chained
set_option maxRecDepth 20000 in
theorem ggX6_drift_X5_hundredths : GoodIn wsX6_drift wsX5_hundredths := goodIn_r _ [141, 142, 143, 56, 57, 54, 58] (by decide +kernel) (by decide +kernel)
set_option maxRecDepth 20000 in
theorem gX6_drift_X5_hundredths : GoodIn wsX6_drift (va_wsS RX6 166 yX5_hundredths wsX5_hundredths) := goodIn_app (goodIn_of _ (by decide +kernel)) ggX6_drift_X5_hundredths
set_option maxRecDepth 20000 in
theorem ggX6_drift_X3_direct : GoodIn wsX6_drift wsX3_direct := goodIn_r _ [147, 122, 138, 86, 87, 88, 73, 89, 90, 91, 92, 93, 94, 95, 96, 97, 98, 99, 100, 101, 75, 41, 5, 42, 102, 103, 104, 105, 106, 107, 108, 109, 76, 110, 111, 54, 112, 56, 57, 58, 63, 64, 65, 66, 113, 53, 55, 59, 60, 61, 62, 114, 115, 116, 117, 128, 68, 69, 152, 153, 154, 155, 166, 167, 168, 156, 157, 158, 159, 160, 161, 162, 163, 164, 165] (by decide +kernel) (by decide +kernel)
set_option maxRecDepth 20000 in
theorem gX6_drift_X3_direct : GoodIn wsX6_drift (wsV RX6 163 RX3 yX3_direct wsX3_direct) := goodIn_app (goodIn_of _ (by decide +kernel)) ggX6_drift_X3_direct
theorem dX6_drift_0 : decode cX6_drift 0 = .ok (.iload_n 1, 1) := by decide +kernel
theorem dX6_drift_1 : decode cX6_drift 1 = .ok (.invokestatic 39, 3) := by decide +kernel
theorem dX6_drift_4 : decode cX6_drift 4 = .ok (.ifCond .eq 22, 3) := by decide +kernel
theorem dX6_drift_7 : decode cX6_drift 7 = .ok (.iload_n 2, 1) := by decide +kernel
theorem dX6_drift_8 : decode cX6_drift 8 = .ok (.invokestatic 61, 3) := by decide +kernel
theorem dX6_drift_11 : decode cX6_drift 11 = .ok (.ifCond .eq 15, 3) := by decide +kernel
theorem dX6_drift_14 : decode cX6_drift 14 = .ok (.iload_n 3, 1) := by decide +kernel
theorem dX6_drift_15 : decode cX6_drift 15 = .ok (.invokestatic 61, 3) := by decide +kernel
theorem dX6_drift_18 : decode cX6_drift 18 = .ok (.ifCond .eq 8, 3) := by decide +kernel
theorem dX6_drift_21 : decode cX6_drift 21 = .ok (.iload_n 3, 1) := by decide +kernel
theorem dX6_drift_22 : decode cX6_drift 22 = .ok (.iload_n 2, 1) := by decide +kernel
theorem dX6_drift_23 : decode cX6_drift 23 = .ok (.if_icmp .ge 5, 3) := by decide +kernel
theorem dX6_drift_26 : decode cX6_drift 26 = .ok (.iconst (-1), 1) := by decide +kernel
theorem dX6_drift_27 : decode cX6_drift 27 = .ok (.ireturn, 1) := by decide +kernel
theorem dX6_drift_28 : decode cX6_drift 28 = .ok (.aload_n 0, 1) := by decide +kernel
theorem dX6_drift_29 : decode cX6_drift 29 = .ok (.getfield 35, 3) := by decide +kernel
theorem dX6_drift_32 : decode cX6_drift 32 = .ok (.invokevirtual 121, 3) := by decide +kernel
theorem dX6_drift_35 : decode cX6_drift 35 = .ok (.aload_n 0, 1) := by decide +kernel
theorem dX6_drift_36 : decode cX6_drift 36 = .ok (.getfield 35, 3) := by decide +kernel
theorem dX6_drift_39 : decode cX6_drift 39 = .ok (.iload_n 1, 1) := by decide +kernel
theorem dX6_drift_40 : decode cX6_drift 40 = .ok (.iload_n 2, 1) := by decide +kernel
theorem dX6_drift_41 : decode cX6_drift 41 = .ok (.iload_n 3, 1) := by decide +kernel
theorem dX6_drift_42 : decode cX6_drift 42 = .ok (.invokevirtual 160, 3) := by decide +kernel
theorem dX6_drift_45 : decode cX6_drift 45 = .ok (.ifCond .ne 6, 3) := by decide +kernel
theorem dX6_drift_48 : decode cX6_drift 48 = .ok (.bipush (-9), 2) := by decide +kernel
theorem dX6_drift_50 : decode cX6_drift 50 = .ok (.ireturn, 1) := by decide +kernel
theorem dX6_drift_51 : decode cX6_drift 51 = .ok (.aload_n 0, 1) := by decide +kernel
theorem dX6_drift_52 : decode cX6_drift 52 = .ok (.getfield 35, 3) := by decide +kernel
theorem dX6_drift_55 : decode cX6_drift 55 = .ok (.iload_n 1, 1) := by decide +kernel
theorem dX6_drift_56 : decode cX6_drift 56 = .ok (.iload_n 2, 1) := by decide +kernel
theorem dX6_drift_57 : decode cX6_drift 57 = .ok (.iload_n 3, 1) := by decide +kernel
theorem dX6_drift_58 : decode cX6_drift 58 = .ok (.invokevirtual 169, 3) := by decide +kernel
theorem dX6_drift_61 : decode cX6_drift 61 = .ok (.invokestatic 166, 3) := by decide +kernel
theorem dX6_drift_64 : decode cX6_drift 64 = .ok (.istore 4, 2) := by decide +kernel
theorem dX6_drift_66 : decode cX6_drift 66 = .ok (.aload_n 0, 1) := by decide +kernel
theorem dX6_drift_67 : decode cX6_drift 67 = .ok (.getfield 35, 3) := by decide +kernel
theorem dX6_drift_70 : decode cX6_drift 70 = .ok (.iload_n 1, 1) := by decide +kernel
theorem dX6_drift_71 : decode cX6_drift 71 = .ok (.iload_n 2, 1) := by decide +kernel
theorem dX6_drift_72 : decode cX6_drift 72 = .ok (.iload_n 3, 1) := by decide +kernel
theorem dX6_drift_73 : decode cX6_drift 73 = .ok (.invokevirtual 163, 3) := by decide +kernel
theorem dX6_drift_76 : decode cX6_drift 76 = .ok (.invokestatic 166, 3) := by decide +kernel
theorem dX6_drift_79 : decode cX6_drift 79 = .ok (.istore 5, 2) := by decide +kernel
theorem dX6_drift_81 : decode cX6_drift 81 = .ok (.ldc 172, 2) := by decide +kernel
theorem dX6_drift_83 : decode cX6_drift 83 = .ok (.iload 4, 2) := by decide +kernel
theorem dX6_drift_85 : decode cX6_drift 85 = .ok (.iload 5, 2) := by decide +kernel
theorem dX6_drift_87 : decode cX6_drift 87 = .ok (.isub, 1) := by decide +kernel
theorem dX6_drift_88 : decode cX6_drift 88 = .ok (.iadd, 1) := by decide +kernel
theorem dX6_drift_89 : decode cX6_drift 89 = .ok (.ireturn, 1) := by decide +kernel
set_option maxRecDepth 20000 in
theorem ggX6_aggregateIndex_X6_isMonth : GoodIn wsX6_aggregateIndex wsX6_isMonth := goodIn_r _ [5] (by decide +kernel) (by decide +kernel)
set_option maxRecDepth 20000 in
theorem gX6_aggregateIndex_X6_isMonth : GoodIn wsX6_aggregateIndex (va_wsS RX6 61 yX6_isMonth wsX6_isMonth) := goodIn_app (goodIn_of _ (by decide +kernel)) ggX6_aggregateIndex_X6_isMonth
set_option maxRecDepth 20000 in
theorem ggX6_aggregateIndex_X3_refresh : GoodIn wsX6_aggregateIndex wsX3_refresh := goodIn_r _ [10, 11, 12, 13, 14, 15, 16, 9, 17, 18, 19, 20, 21, 22, 23, 24, 25, 26, 27, 28, 29, 30, 31, 32, 33, 34, 35, 36, 37, 4, 38, 39, 40, 41, 42, 43, 44, 45, 46, 47, 48, 49, 50, 51, 52, 53, 54, 55, 56, 57, 58, 59, 60, 61, 62, 63, 64, 65, 66, 67, 68, 69, 70, 71, 72, 73, 74, 75, 76, 77, 78, 79, 80, 81, 82, 83, 84, 85, 86, 87, 88, 89, 90, 91, 92, 93, 94, 95, 96, 97, 98, 99, 100, 101, 102, 103, 104, 105, 106, 107, 108, 109, 110, 111, 112, 113, 114, 115, 116, 117, 118, 119, 120, 121, 122, 123, 124, 156, 157, 158, 159, 160, 161, 162, 163, 164, 165, 166, 167, 168, 169, 170, 171, 172] (by decide +kernel) (by decide +kernel)
set_option maxRecDepth 20000 in
theorem gX6_aggregateIndex_X3_refresh : GoodIn wsX6_aggregateIndex (wsV RX6 121 RX3 yX3_refresh wsX3_refresh) := goodIn_app (goodIn_of _ (by decide +kernel)) ggX6_aggregateIndex_X3_refresh
set_option maxRecDepth 20000 in
theorem ggX6_aggregateIndex_X3_weightOfDirect : GoodIn wsX6_aggregateIndex wsX3_weightOfDirect := goodIn_r _ [128, 12, 129, 130, 131, 132, 9, 133, 118, 134, 89, 90, 69, 91, 86, 92, 93, 94, 95, 96, 97, 71, 37, 4, 38, 156, 157, 158, 159, 160, 161, 162, 163, 164, 165, 166, 167, 168, 169, 170, 171, 172] (by decide +kernel) (by decide +kernel)
set_option maxRecDepth 20000 in
theorem gX6_aggregateIndex_X3_weightOfDirect : GoodIn wsX6_aggregateIndex (wsV RX6 173 RX3 yX3_weightOfDirect wsX3_weightOfDirect) := goodIn_app (goodIn_of _ (by decide +kernel)) ggX6_aggregateIndex_X3_weightOfDirect
set_option maxRecDepth 20000 in
theorem ggX6_aggregateIndex_X3_aggregate : GoodIn wsX6_aggregateIndex wsX3_aggregate := goodIn_r _ [138, 12, 129, 130, 131, 132, 9, 133, 118, 134, 89, 90, 69, 91, 86, 92, 93, 94, 95, 96, 97, 71, 37, 4, 38, 139, 140, 141, 142, 143, 82, 83, 84, 85, 87, 88, 98, 99, 100, 101, 102, 103, 104, 105, 72, 106, 107, 50, 108, 52, 53, 54, 59, 60, 61, 62, 109, 49, 51, 55, 56, 57, 58, 110, 111, 112, 113, 124, 64, 65, 144, 145, 126, 127, 128, 146, 156, 157, 158, 159, 160, 161, 162, 163, 164, 165, 166, 167, 168, 169, 170, 171, 172] (by decide +kernel) (by decide +kernel)
set_option maxRecDepth 20000 in
theorem gX6_aggregateIndex_X3_aggregate : GoodIn wsX6_aggregateIndex (wsV RX6 176 RX3 yX3_aggregate wsX3_aggregate) := goodIn_app (goodIn_of _ (by decide +kernel)) ggX6_aggregateIndex_X3_aggregate
set_option maxRecDepth 20000 in
theorem ggX6_aggregateIndex_X5_hundredths : GoodIn wsX6_aggregateIndex wsX5_hundredths := goodIn_r _ [149, 150, 151, 52, 53, 50, 54] (by decide +kernel) (by decide +kernel)
set_option maxRecDepth 20000 in
theorem gX6_aggregateIndex_X5_hundredths : GoodIn wsX6_aggregateIndex (va_wsS RX6 166 yX5_hundredths wsX5_hundredths) := goodIn_app (goodIn_of _ (by decide +kernel)) ggX6_aggregateIndex_X5_hundredths
theorem dX6_aggregateIndex_0 : decode cX6_aggregateIndex 0 = .ok (.iload_n 1, 1) := by decide +kernel
theorem dX6_aggregateIndex_1 : decode cX6_aggregateIndex 1 = .ok (.invokestatic 61, 3) := by decide +kernel
theorem dX6_aggregateIndex_4 : decode cX6_aggregateIndex 4 = .ok (.ifCond .eq 10, 3) := by decide +kernel
theorem dX6_aggregateIndex_7 : decode cX6_aggregateIndex 7 = .ok (.iload_n 2, 1) := by decide +kernel
theorem dX6_aggregateIndex_8 : decode cX6_aggregateIndex 8 = .ok (.invokestatic 61, 3) := by decide +kernel
theorem dX6_aggregateIndex_11 : decode cX6_aggregateIndex 11 = .ok (.ifCond .ne 5, 3) := by decide +kernel
theorem dX6_aggregateIndex_14 : decode cX6_aggregateIndex 14 = .ok (.iconst (-1), 1) := by decide +kernel
theorem dX6_aggregateIndex_15 : decode cX6_aggregateIndex 15 = .ok (.ireturn, 1) := by decide +kernel
theorem dX6_aggregateIndex_16 : decode cX6_aggregateIndex 16 = .ok (.aload_n 0, 1) := by decide +kernel
theorem dX6_aggregateIndex_17 : decode cX6_aggregateIndex 17 = .ok (.getfield 35, 3) := by decide +kernel
theorem dX6_aggregateIndex_20 : decode cX6_aggregateIndex 20 = .ok (.invokevirtual 121, 3) := by decide +kernel
theorem dX6_aggregateIndex_23 : decode cX6_aggregateIndex 23 = .ok (.aload_n 0, 1) := by decide +kernel
theorem dX6_aggregateIndex_24 : decode cX6_aggregateIndex 24 = .ok (.getfield 35, 3) := by decide +kernel
theorem dX6_aggregateIndex_27 : decode cX6_aggregateIndex 27 = .ok (.iload_n 1, 1) := by decide +kernel
theorem dX6_aggregateIndex_28 : decode cX6_aggregateIndex 28 = .ok (.iload_n 2, 1) := by decide +kernel
theorem dX6_aggregateIndex_29 : decode cX6_aggregateIndex 29 = .ok (.invokevirtual 173, 3) := by decide +kernel
theorem dX6_aggregateIndex_32 : decode cX6_aggregateIndex 32 = .ok (.ifCond .ne 6, 3) := by decide +kernel
theorem dX6_aggregateIndex_35 : decode cX6_aggregateIndex 35 = .ok (.bipush (-9), 2) := by decide +kernel
theorem dX6_aggregateIndex_37 : decode cX6_aggregateIndex 37 = .ok (.ireturn, 1) := by decide +kernel
theorem dX6_aggregateIndex_38 : decode cX6_aggregateIndex 38 = .ok (.aload_n 0, 1) := by decide +kernel
theorem dX6_aggregateIndex_39 : decode cX6_aggregateIndex 39 = .ok (.getfield 35, 3) := by decide +kernel
theorem dX6_aggregateIndex_42 : decode cX6_aggregateIndex 42 = .ok (.iload_n 1, 1) := by decide +kernel
theorem dX6_aggregateIndex_43 : decode cX6_aggregateIndex 43 = .ok (.iload_n 2, 1) := by decide +kernel
theorem dX6_aggregateIndex_44 : decode cX6_aggregateIndex 44 = .ok (.invokevirtual 176, 3) := by decide +kernel
theorem dX6_aggregateIndex_47 : decode cX6_aggregateIndex 47 = .ok (.invokestatic 166, 3) := by decide +kernel
theorem dX6_aggregateIndex_50 : decode cX6_aggregateIndex 50 = .ok (.ireturn, 1) := by decide +kernel
set_option maxRecDepth 20000 in
theorem ggX6_aggregateBits_X6_isMonth : GoodIn wsX6_aggregateBits wsX6_isMonth := goodIn_r _ [5] (by decide +kernel) (by decide +kernel)
set_option maxRecDepth 20000 in
theorem gX6_aggregateBits_X6_isMonth : GoodIn wsX6_aggregateBits (va_wsS RX6 61 yX6_isMonth wsX6_isMonth) := goodIn_app (goodIn_of _ (by decide +kernel)) ggX6_aggregateBits_X6_isMonth
set_option maxRecDepth 20000 in
theorem ggX6_aggregateBits_X3_refresh : GoodIn wsX6_aggregateBits wsX3_refresh := goodIn_r _ [10, 11, 12, 13, 14, 15, 16, 9, 17, 18, 19, 20, 21, 22, 23, 24, 25, 26, 27, 28, 29, 30, 31, 32, 33, 34, 35, 36, 37, 4, 38, 39, 40, 41, 42, 43, 44, 45, 46, 47, 48, 49, 50, 51, 52, 53, 54, 55, 56, 57, 58, 59, 60, 61, 62, 63, 64, 65, 66, 67, 68, 69, 70, 71, 72, 73, 74, 75, 76, 77, 78, 79, 80, 81, 82, 83, 84, 85, 86, 87, 88, 89, 90, 91, 92, 93, 94, 95, 96, 97, 98, 99, 100, 101, 102, 103, 104, 105, 106, 107, 108, 109, 110, 111, 112, 113, 114, 115, 116, 117, 118, 119, 120, 121, 122, 123, 124, 157, 158, 159, 160, 161, 162, 163, 164, 165, 166, 167, 168, 169, 170, 171, 172, 173] (by decide +kernel) (by decide +kernel)
set_option maxRecDepth 20000 in
theorem gX6_aggregateBits_X3_refresh : GoodIn wsX6_aggregateBits (wsV RX6 121 RX3 yX3_refresh wsX3_refresh) := goodIn_app (goodIn_of _ (by decide +kernel)) ggX6_aggregateBits_X3_refresh
set_option maxRecDepth 20000 in
theorem ggX6_aggregateBits_X3_weightOfDirect : GoodIn wsX6_aggregateBits wsX3_weightOfDirect := goodIn_r _ [128, 12, 129, 130, 131, 132, 9, 133, 118, 134, 89, 90, 69, 91, 86, 92, 93, 94, 95, 96, 97, 71, 37, 4, 38, 157, 158, 159, 160, 161, 162, 163, 164, 165, 166, 167, 168, 169, 170, 171, 172, 173] (by decide +kernel) (by decide +kernel)
set_option maxRecDepth 20000 in
theorem gX6_aggregateBits_X3_weightOfDirect : GoodIn wsX6_aggregateBits (wsV RX6 173 RX3 yX3_weightOfDirect wsX3_weightOfDirect) := goodIn_app (goodIn_of _ (by decide +kernel)) ggX6_aggregateBits_X3_weightOfDirect
set_option maxRecDepth 20000 in
theorem ggX6_aggregateBits_X3_aggregate : GoodIn wsX6_aggregateBits wsX3_aggregate := goodIn_r _ [138, 12, 129, 130, 131, 132, 9, 133, 118, 134, 89, 90, 69, 91, 86, 92, 93, 94, 95, 96, 97, 71, 37, 4, 38, 139, 140, 141, 142, 143, 82, 83, 84, 85, 87, 88, 98, 99, 100, 101, 102, 103, 104, 105, 72, 106, 107, 50, 108, 52, 53, 54, 59, 60, 61, 62, 109, 49, 51, 55, 56, 57, 58, 110, 111, 112, 113, 124, 64, 65, 144, 145, 126, 127, 128, 146, 157, 158, 159, 160, 161, 162, 163, 164, 165, 166, 167, 168, 169, 170, 171, 172, 173] (by decide +kernel) (by decide +kernel)
set_option maxRecDepth 20000 in
theorem gX6_aggregateBits_X3_aggregate : GoodIn wsX6_aggregateBits (wsV RX6 176 RX3 yX3_aggregate wsX3_aggregate) := goodIn_app (goodIn_of _ (by decide +kernel)) ggX6_aggregateBits_X3_aggregate
set_option maxRecDepth 20000 in
theorem ggX6_aggregateBits_X5_bits : GoodIn wsX6_aggregateBits wsX5_bits := goodIn_r _ [149, 150, 151, 152, 52, 53, 50, 54, 55, 56, 57, 58] (by decide +kernel) (by decide +kernel)
set_option maxRecDepth 20000 in
theorem gX6_aggregateBits_X5_bits : GoodIn wsX6_aggregateBits (va_wsS RX6 138 yX5_bits wsX5_bits) := goodIn_app (goodIn_of _ (by decide +kernel)) ggX6_aggregateBits_X5_bits
theorem dX6_aggregateBits_0 : decode cX6_aggregateBits 0 = .ok (.iload_n 1, 1) := by decide +kernel
theorem dX6_aggregateBits_1 : decode cX6_aggregateBits 1 = .ok (.invokestatic 61, 3) := by decide +kernel
theorem dX6_aggregateBits_4 : decode cX6_aggregateBits 4 = .ok (.ifCond .eq 10, 3) := by decide +kernel
theorem dX6_aggregateBits_7 : decode cX6_aggregateBits 7 = .ok (.iload_n 2, 1) := by decide +kernel
theorem dX6_aggregateBits_8 : decode cX6_aggregateBits 8 = .ok (.invokestatic 61, 3) := by decide +kernel
theorem dX6_aggregateBits_11 : decode cX6_aggregateBits 11 = .ok (.ifCond .ne 5, 3) := by decide +kernel
theorem dX6_aggregateBits_14 : decode cX6_aggregateBits 14 = .ok (.iconst (-1), 1) := by decide +kernel
theorem dX6_aggregateBits_15 : decode cX6_aggregateBits 15 = .ok (.ireturn, 1) := by decide +kernel
theorem dX6_aggregateBits_16 : decode cX6_aggregateBits 16 = .ok (.aload_n 0, 1) := by decide +kernel
theorem dX6_aggregateBits_17 : decode cX6_aggregateBits 17 = .ok (.getfield 35, 3) := by decide +kernel
theorem dX6_aggregateBits_20 : decode cX6_aggregateBits 20 = .ok (.invokevirtual 121, 3) := by decide +kernel
theorem dX6_aggregateBits_23 : decode cX6_aggregateBits 23 = .ok (.aload_n 0, 1) := by decide +kernel
theorem dX6_aggregateBits_24 : decode cX6_aggregateBits 24 = .ok (.getfield 35, 3) := by decide +kernel
theorem dX6_aggregateBits_27 : decode cX6_aggregateBits 27 = .ok (.iload_n 1, 1) := by decide +kernel
theorem dX6_aggregateBits_28 : decode cX6_aggregateBits 28 = .ok (.iload_n 2, 1) := by decide +kernel
theorem dX6_aggregateBits_29 : decode cX6_aggregateBits 29 = .ok (.invokevirtual 173, 3) := by decide +kernel
theorem dX6_aggregateBits_32 : decode cX6_aggregateBits 32 = .ok (.ifCond .ne 6, 3) := by decide +kernel
theorem dX6_aggregateBits_35 : decode cX6_aggregateBits 35 = .ok (.bipush (-9), 2) := by decide +kernel
theorem dX6_aggregateBits_37 : decode cX6_aggregateBits 37 = .ok (.ireturn, 1) := by decide +kernel
theorem dX6_aggregateBits_38 : decode cX6_aggregateBits 38 = .ok (.aload_n 0, 1) := by decide +kernel
theorem dX6_aggregateBits_39 : decode cX6_aggregateBits 39 = .ok (.getfield 35, 3) := by decide +kernel
theorem dX6_aggregateBits_42 : decode cX6_aggregateBits 42 = .ok (.iload_n 1, 1) := by decide +kernel
theorem dX6_aggregateBits_43 : decode cX6_aggregateBits 43 = .ok (.iload_n 2, 1) := by decide +kernel
theorem dX6_aggregateBits_44 : decode cX6_aggregateBits 44 = .ok (.invokevirtual 176, 3) := by decide +kernel
theorem dX6_aggregateBits_47 : decode cX6_aggregateBits 47 = .ok (.invokestatic 138, 3) := by decide +kernel
theorem dX6_aggregateBits_50 : decode cX6_aggregateBits 50 = .ok (.ireturn, 1) := by decide +kernel
set_option maxRecDepth 20000 in
theorem ggX6_undo_X3_outdate : GoodIn wsX6_undo wsX3_outdate := goodIn_r _ [9, 10, 45, 46, 47, 48] (by decide +kernel) (by decide +kernel)
set_option maxRecDepth 20000 in
theorem gX6_undo_X3_outdate : GoodIn wsX6_undo (wsV RX6 182 RX3 yX3_outdate wsX3_outdate) := goodIn_app (goodIn_of _ (by decide +kernel)) ggX6_undo_X3_outdate
set_option maxRecDepth 20000 in
theorem ggX6_undo_X1_takeBack : GoodIn wsX6_undo wsX1_takeBack := goodIn_r _ [15, 16, 17, 18, 19, 20, 21, 22, 23, 24, 25, 26, 27, 28, 29, 30, 31, 32, 33, 34, 35, 36, 37, 42, 43, 44, 49, 50, 51, 52, 53, 54, 55, 56, 57, 58] (by decide +kernel) (by decide +kernel)
set_option maxRecDepth 20000 in
theorem gX6_undo_X1_takeBack : GoodIn wsX6_undo (wsV RX6 185 RX1 yX1_takeBack wsX1_takeBack) := goodIn_app (goodIn_of _ (by decide +kernel)) ggX6_undo_X1_takeBack
theorem dX6_undo_0 : decode cX6_undo 0 = .ok (.aload_n 0, 1) := by decide +kernel
theorem dX6_undo_1 : decode cX6_undo 1 = .ok (.getfield 19, 3) := by decide +kernel
theorem dX6_undo_4 : decode cX6_undo 4 = .ok (.getfield 179, 3) := by decide +kernel
