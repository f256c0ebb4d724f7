theorem dX6_init_0 : decode cX6_init 0 = .ok (.aload_n 0, 1) := by decide +kernel
theorem dX6_init_1 : decode cX6_init 1 = .ok (.invokespecial 3, 3) := by decide +kernel
theorem dX6_init_4 : decode cX6_init 4 = .ok (.aload_n 0, 1) := by decide +kernel
theorem dX6_init_5 : decode cX6_init 5 = .ok (.new 9, 3) := by decide +kernel
theorem dX6_init_8 : decode cX6_init 8 = .ok (.dup, 1) := by decide +kernel
theorem dX6_init_9 : decode cX6_init 9 = .ok (.invokespecial 11, 3) := by decide +kernel
theorem dX6_init_12 : decode cX6_init 12 = .ok (.putfield 12, 3) := by decide +kernel
theorem dX6_init_15 : decode cX6_init 15 = .ok (.aload_n 0, 1) := by decide +kernel
theorem dX6_init_16 : decode cX6_init 16 = .ok (.new 16, 3) := by decide +kernel
theorem dX6_init_19 : decode cX6_init 19 = .ok (.dup, 1) := by decide +kernel
theorem dX6_init_20 : decode cX6_init 20 = .ok (.invokespecial 18, 3) := by decide +kernel
theorem dX6_init_23 : decode cX6_init 23 = .ok (.putfield 19, 3) := by decide +kernel
theorem dX6_init_26 : decode cX6_init 26 = .ok (.aload_n 0, 1) := by decide +kernel
theorem dX6_init_27 : decode cX6_init 27 = .ok (.new 23, 3) := by decide +kernel
theorem dX6_init_30 : decode cX6_init 30 = .ok (.dup, 1) := by decide +kernel
theorem dX6_init_31 : decode cX6_init 31 = .ok (.invokespecial 25, 3) := by decide +kernel
theorem dX6_init_34 : decode cX6_init 34 = .ok (.putfield 26, 3) := by decide +kernel
theorem dX6_init_37 : decode cX6_init 37 = .ok (.aload_n 0, 1) := by decide +kernel
theorem dX6_init_38 : decode cX6_init 38 = .ok (.new 30, 3) := by decide +kernel
theorem dX6_init_41 : decode cX6_init 41 = .ok (.dup, 1) := by decide +kernel
theorem dX6_init_42 : decode cX6_init 42 = .ok (.aload_n 0, 1) := by decide +kernel
theorem dX6_init_43 : decode cX6_init 43 = .ok (.getfield 12, 3) := by decide +kernel
theorem dX6_init_46 : decode cX6_init 46 = .ok (.invokespecial 32, 3) := by decide +kernel
theorem dX6_init_49 : decode cX6_init 49 = .ok (.putfield 35, 3) := by decide +kernel
theorem dX6_init_52 : decode cX6_init 52 = .ok (.return_, 1) := by decide +kernel
set_option maxRecDepth 20000 in
theorem ggX6_addItem_X6_isStratum : GoodIn wsX6_addItem wsX6_isStratum := goodIn_r _ [6] (by decide +kernel) (by decide +kernel)
set_option maxRecDepth 20000 in
theorem gX6_addItem_X6_isStratum : GoodIn wsX6_addItem (va_wsS RX6 39 yX6_isStratum wsX6_isStratum) := goodIn_app (goodIn_of _ (by decide +kernel)) ggX6_addItem_X6_isStratum
set_option maxRecDepth 20000 in
theorem ggX6_addItem_X6_isWithin : GoodIn wsX6_addItem wsX6_isWithin := goodIn_r _ [9] (by decide +kernel) (by decide +kernel)
set_option maxRecDepth 20000 in
theorem gX6_addItem_X6_isWithin : GoodIn wsX6_addItem (va_wsS RX6 43 yX6_isWithin wsX6_isWithin) := goodIn_app (goodIn_of _ (by decide +kernel)) ggX6_addItem_X6_isWithin
set_option maxRecDepth 20000 in
theorem ggX6_addItem_X6_beginEdit : GoodIn wsX6_addItem wsX6_beginEdit := goodIn_r _ [13, 14, 1, 15, 16, 17, 18, 19, 20, 21, 22, 23, 24, 25, 26, 27, 28, 29, 30, 31, 32, 33, 34, 35, 36, 37, 38, 39, 40, 41, 42, 43, 44, 45, 46, 47, 48, 53, 54, 55, 56, 67, 68, 69, 57, 58, 59, 60, 61, 62, 63, 64, 65, 66, 70, 71, 72, 73] (by decide +kernel) (by decide +kernel)
set_option maxRecDepth 20000 in
theorem gX6_addItem_X6_beginEdit : GoodIn wsX6_addItem (wsV RX6 51 RX6 yX6_beginEdit wsX6_beginEdit) := goodIn_app (goodIn_of _ (by decide +kernel)) ggX6_addItem_X6_beginEdit
set_option maxRecDepth 20000 in
theorem ggX6_addItem_X0_append : GoodIn wsX6_addItem wsX0_append := goodIn_r _ [52, 29, 36, 37, 38, 57, 58, 59, 60, 61, 62, 63, 64, 65, 66] (by decide +kernel) (by decide +kernel)
set_option maxRecDepth 20000 in
theorem gX6_addItem_X0_append : GoodIn wsX6_addItem (wsV RX6 54 RX0 yX0_append wsX0_append) := goodIn_app (goodIn_of _ (by decide +kernel)) ggX6_addItem_X0_append
theorem dX6_addItem_0 : decode cX6_addItem 0 = .ok (.iload_n 1, 1) := by decide +kernel
theorem dX6_addItem_1 : decode cX6_addItem 1 = .ok (.invokestatic 39, 3) := by decide +kernel
theorem dX6_addItem_4 : decode cX6_addItem 4 = .ok (.ifCond .eq 25, 3) := by decide +kernel
theorem dX6_addItem_7 : decode cX6_addItem 7 = .ok (.iload_n 2, 1) := by decide +kernel
theorem dX6_addItem_8 : decode cX6_addItem 8 = .ok (.iconst 1, 1) := by decide +kernel
theorem dX6_addItem_9 : decode cX6_addItem 9 = .ok (.sipush 1000, 3) := by decide +kernel
theorem dX6_addItem_12 : decode cX6_addItem 12 = .ok (.invokestatic 43, 3) := by decide +kernel
theorem dX6_addItem_15 : decode cX6_addItem 15 = .ok (.ifCond .eq 14, 3) := by decide +kernel
theorem dX6_addItem_18 : decode cX6_addItem 18 = .ok (.iload_n 3, 1) := by decide +kernel
theorem dX6_addItem_19 : decode cX6_addItem 19 = .ok (.iconst 1, 1) := by decide +kernel
theorem dX6_addItem_20 : decode cX6_addItem 20 = .ok (.sipush 4095, 3) := by decide +kernel
theorem dX6_addItem_23 : decode cX6_addItem 23 = .ok (.invokestatic 43, 3) := by decide +kernel
theorem dX6_addItem_26 : decode cX6_addItem 26 = .ok (.ifCond .ne 5, 3) := by decide +kernel
theorem dX6_addItem_29 : decode cX6_addItem 29 = .ok (.iconst (-1), 1) := by decide +kernel
theorem dX6_addItem_30 : decode cX6_addItem 30 = .ok (.ireturn, 1) := by decide +kernel
theorem dX6_addItem_31 : decode cX6_addItem 31 = .ok (.aload_n 0, 1) := by decide +kernel
theorem dX6_addItem_32 : decode cX6_addItem 32 = .ok (.getfield 12, 3) := by decide +kernel
theorem dX6_addItem_35 : decode cX6_addItem 35 = .ok (.getfield 47, 3) := by decide +kernel
theorem dX6_addItem_38 : decode cX6_addItem 38 = .ok (.bipush 12, 2) := by decide +kernel
theorem dX6_addItem_40 : decode cX6_addItem 40 = .ok (.if_icmp .lt 6, 3) := by decide +kernel
theorem dX6_addItem_43 : decode cX6_addItem 43 = .ok (.bipush (-3), 2) := by decide +kernel
theorem dX6_addItem_45 : decode cX6_addItem 45 = .ok (.ireturn, 1) := by decide +kernel
theorem dX6_addItem_46 : decode cX6_addItem 46 = .ok (.aload_n 0, 1) := by decide +kernel
theorem dX6_addItem_47 : decode cX6_addItem 47 = .ok (.invokevirtual 51, 3) := by decide +kernel
theorem dX6_addItem_50 : decode cX6_addItem 50 = .ok (.aload_n 0, 1) := by decide +kernel
theorem dX6_addItem_51 : decode cX6_addItem 51 = .ok (.getfield 12, 3) := by decide +kernel
theorem dX6_addItem_54 : decode cX6_addItem 54 = .ok (.iload_n 1, 1) := by decide +kernel
theorem dX6_addItem_55 : decode cX6_addItem 55 = .ok (.iload_n 2, 1) := by decide +kernel
theorem dX6_addItem_56 : decode cX6_addItem 56 = .ok (.iload_n 3, 1) := by decide +kernel
theorem dX6_addItem_57 : decode cX6_addItem 57 = .ok (.invokevirtual 54, 3) := by decide +kernel
theorem dX6_addItem_60 : decode cX6_addItem 60 = .ok (.ireturn, 1) := by decide +kernel
theorem dX6_itemCount_0 : decode cX6_itemCount 0 = .ok (.aload_n 0, 1) := by decide +kernel
theorem dX6_itemCount_1 : decode cX6_itemCount 1 = .ok (.getfield 12, 3) := by decide +kernel
theorem dX6_itemCount_4 : decode cX6_itemCount 4 = .ok (.getfield 47, 3) := by decide +kernel
theorem dX6_itemCount_7 : decode cX6_itemCount 7 = .ok (.ireturn, 1) := by decide +kernel
set_option maxRecDepth 20000 in
theorem ggX6_setPrice_X6_isItem : GoodIn wsX6_setPrice wsX6_isItem := goodIn_r _ [8, 2, 9, 58, 59, 60, 61, 62, 63, 64, 65, 66, 67, 68, 69, 70, 71] (by decide +kernel) (by decide +kernel)
set_option maxRecDepth 20000 in
theorem gX6_setPrice_X6_isItem : GoodIn wsX6_setPrice (wsV RX6 58 RX6 yX6_isItem wsX6_isItem) := goodIn_app (goodIn_of _ (by decide +kernel)) ggX6_setPrice_X6_isItem
set_option maxRecDepth 20000 in
theorem ggX6_setPrice_X6_isMonth : GoodIn wsX6_setPrice wsX6_isMonth := goodIn_r _ [12] (by decide +kernel) (by decide +kernel)
set_option maxRecDepth 20000 in
theorem gX6_setPrice_X6_isMonth : GoodIn wsX6_setPrice (va_wsS RX6 61 yX6_isMonth wsX6_isMonth) := goodIn_app (goodIn_of _ (by decide +kernel)) ggX6_setPrice_X6_isMonth
set_option maxRecDepth 20000 in
theorem ggX6_setPrice_X6_isWithin : GoodIn wsX6_setPrice wsX6_isWithin := goodIn_r _ [15] (by decide +kernel) (by decide +kernel)
set_option maxRecDepth 20000 in
theorem gX6_setPrice_X6_isWithin : GoodIn wsX6_setPrice (va_wsS RX6 43 yX6_isWithin wsX6_isWithin) := goodIn_app (goodIn_of _ (by decide +kernel)) ggX6_setPrice_X6_isWithin
set_option maxRecDepth 20000 in
theorem ggX6_setPrice_X6_cell : GoodIn wsX6_setPrice wsX6_cell := goodIn_r _ [18] (by decide +kernel) (by decide +kernel)
set_option maxRecDepth 20000 in
theorem gX6_setPrice_X6_cell : GoodIn wsX6_setPrice (va_wsS RX6 69 yX6_cell wsX6_cell) := goodIn_app (goodIn_of _ (by decide +kernel)) ggX6_setPrice_X6_cell
set_option maxRecDepth 20000 in
theorem ggX6_setPrice_X6_beginEdit : GoodIn wsX6_setPrice wsX6_beginEdit := goodIn_r _ [22, 23, 2, 24, 25, 26, 27, 28, 29, 30, 31, 32, 33, 34, 35, 36, 37, 38, 39, 40, 41, 42, 43, 44, 45, 46, 47, 48, 49, 50, 51, 52, 53, 54, 55, 56, 57, 58, 59, 60, 61, 72, 73, 74, 62, 63, 64, 65, 66, 67, 68, 69, 70, 71, 75, 76, 77, 78] (by decide +kernel) (by decide +kernel)
set_option maxRecDepth 20000 in
theorem gX6_setPrice_X6_beginEdit : GoodIn wsX6_setPrice (wsV RX6 51 RX6 yX6_beginEdit wsX6_beginEdit) := goodIn_app (goodIn_of _ (by decide +kernel)) ggX6_setPrice_X6_beginEdit
theorem dX6_setPrice_0 : decode cX6_setPrice 0 = .ok (.aload_n 0, 1) := by decide +kernel
theorem dX6_setPrice_1 : decode cX6_setPrice 1 = .ok (.iload_n 1, 1) := by decide +kernel
theorem dX6_setPrice_2 : decode cX6_setPrice 2 = .ok (.invokevirtual 58, 3) := by decide +kernel
theorem dX6_setPrice_5 : decode cX6_setPrice 5 = .ok (.ifCond .eq 20, 3) := by decide +kernel
theorem dX6_setPrice_8 : decode cX6_setPrice 8 = .ok (.iload_n 2, 1) := by decide +kernel
theorem dX6_setPrice_9 : decode cX6_setPrice 9 = .ok (.invokestatic 61, 3) := by decide +kernel
theorem dX6_setPrice_12 : decode cX6_setPrice 12 = .ok (.ifCond .eq 13, 3) := by decide +kernel
theorem dX6_setPrice_15 : decode cX6_setPrice 15 = .ok (.iload_n 3, 1) := by decide +kernel
theorem dX6_setPrice_16 : decode cX6_setPrice 16 = .ok (.iconst 0, 1) := by decide +kernel
theorem dX6_setPrice_17 : decode cX6_setPrice 17 = .ok (.ldc 64, 2) := by decide +kernel
theorem dX6_setPrice_19 : decode cX6_setPrice 19 = .ok (.invokestatic 43, 3) := by decide +kernel
theorem dX6_setPrice_22 : decode cX6_setPrice 22 = .ok (.ifCond .ne 5, 3) := by decide +kernel
theorem dX6_setPrice_25 : decode cX6_setPrice 25 = .ok (.iconst (-1), 1) := by decide +kernel
theorem dX6_setPrice_26 : decode cX6_setPrice 26 = .ok (.ireturn, 1) := by decide +kernel
theorem dX6_setPrice_27 : decode cX6_setPrice 27 = .ok (.aload_n 0, 1) := by decide +kernel
theorem dX6_setPrice_28 : decode cX6_setPrice 28 = .ok (.getfield 12, 3) := by decide +kernel
theorem dX6_setPrice_31 : decode cX6_setPrice 31 = .ok (.getfield 65, 3) := by decide +kernel
theorem dX6_setPrice_34 : decode cX6_setPrice 34 = .ok (.iload_n 1, 1) := by decide +kernel
theorem dX6_setPrice_35 : decode cX6_setPrice 35 = .ok (.iload_n 2, 1) := by decide +kernel
theorem dX6_setPrice_36 : decode cX6_setPrice 36 = .ok (.invokestatic 69, 3) := by decide +kernel
theorem dX6_setPrice_39 : decode cX6_setPrice 39 = .ok (.iaload, 1) := by decide +kernel
theorem dX6_setPrice_40 : decode cX6_setPrice 40 = .ok (.istore 4, 2) := by decide +kernel
theorem dX6_setPrice_42 : decode cX6_setPrice 42 = .ok (.aload_n 0, 1) := by decide +kernel
theorem dX6_setPrice_43 : decode cX6_setPrice 43 = .ok (.invokevirtual 51, 3) := by decide +kernel
theorem dX6_setPrice_46 : decode cX6_setPrice 46 = .ok (.aload_n 0, 1) := by decide +kernel
theorem dX6_setPrice_47 : decode cX6_setPrice 47 = .ok (.getfield 12, 3) := by decide +kernel
theorem dX6_setPrice_50 : decode cX6_setPrice 50 = .ok (.getfield 65, 3) := by decide +kernel
theorem dX6_setPrice_53 : decode cX6_setPrice 53 = .ok (.iload_n 1, 1) := by decide +kernel
theorem dX6_setPrice_54 : decode cX6_setPrice 54 = .ok (.iload_n 2, 1) := by decide +kernel
theorem dX6_setPrice_55 : decode cX6_setPrice 55 = .ok (.invokestatic 69, 3) := by decide +kernel
theorem dX6_setPrice_58 : decode cX6_setPrice 58 = .ok (.iload_n 3, 1) := by decide +kernel
theorem dX6_setPrice_59 : decode cX6_setPrice 59 = .ok (.iastore, 1) := by decide +kernel
theorem dX6_setPrice_60 : decode cX6_setPrice 60 = .ok (.iload 4, 2) := by decide +kernel
theorem dX6_setPrice_62 : decode cX6_setPrice 62 = .ok (.ireturn, 1) := by decide +kernel
set_option maxRecDepth 20000 in
theorem ggX6_quotedPrice_X6_isItem : GoodIn wsX6_quotedPrice wsX6_isItem := goodIn_r _ [7, 1, 8, 15, 16, 17, 18, 19, 20, 21, 22, 23, 24, 25, 26, 27, 28] (by decide +kernel) (by decide +kernel)
set_option maxRecDepth 20000 in
theorem gX6_quotedPrice_X6_isItem : GoodIn wsX6_quotedPrice (wsV RX6 58 RX6 yX6_isItem wsX6_isItem) := goodIn_app (goodIn_of _ (by decide +kernel)) ggX6_quotedPrice_X6_isItem
set_option maxRecDepth 20000 in
theorem ggX6_quotedPrice_X6_isMonth : GoodIn wsX6_quotedPrice wsX6_isMonth := goodIn_r _ [11] (by decide +kernel) (by decide +kernel)
set_option maxRecDepth 20000 in
theorem gX6_quotedPrice_X6_isMonth : GoodIn wsX6_quotedPrice (va_wsS RX6 61 yX6_isMonth wsX6_isMonth) := goodIn_app (goodIn_of _ (by decide +kernel)) ggX6_quotedPrice_X6_isMonth
set_option maxRecDepth 20000 in
theorem ggX6_quotedPrice_X6_cell : GoodIn wsX6_quotedPrice wsX6_cell := goodIn_r _ [14] (by decide +kernel) (by decide +kernel)
set_option maxRecDepth 20000 in
theorem gX6_quotedPrice_X6_cell : GoodIn wsX6_quotedPrice (va_wsS RX6 69 yX6_cell wsX6_cell) := goodIn_app (goodIn_of _ (by decide +kernel)) ggX6_quotedPrice_X6_cell
theorem dX6_quotedPrice_0 : decode cX6_quotedPrice 0 = .ok (.aload_n 0, 1) := by decide +kernel
theorem dX6_quotedPrice_1 : decode cX6_quotedPrice 1 = .ok (.iload_n 1, 1) := by decide +kernel
theorem dX6_quotedPrice_2 : decode cX6_quotedPrice 2 = .ok (.invokevirtual 58, 3) := by decide +kernel
theorem dX6_quotedPrice_5 : decode cX6_quotedPrice 5 = .ok (.ifCond .eq 10, 3) := by decide +kernel
theorem dX6_quotedPrice_8 : decode cX6_quotedPrice 8 = .ok (.iload_n 2, 1) := by decide +kernel
theorem dX6_quotedPrice_9 : decode cX6_quotedPrice 9 = .ok (.invokestatic 61, 3) := by decide +kernel
theorem dX6_quotedPrice_12 : decode cX6_quotedPrice 12 = .ok (.ifCond .ne 5, 3) := by decide +kernel
theorem dX6_quotedPrice_15 : decode cX6_quotedPrice 15 = .ok (.iconst (-1), 1) := by decide +kernel
theorem dX6_quotedPrice_16 : decode cX6_quotedPrice 16 = .ok (.ireturn, 1) := by decide +kernel
theorem dX6_quotedPrice_17 : decode cX6_quotedPrice 17 = .ok (.aload_n 0, 1) := by decide +kernel
theorem dX6_quotedPrice_18 : decode cX6_quotedPrice 18 = .ok (.getfield 12, 3) := by decide +kernel
theorem dX6_quotedPrice_21 : decode cX6_quotedPrice 21 = .ok (.getfield 65, 3) := by decide +kernel
theorem dX6_quotedPrice_24 : decode cX6_quotedPrice 24 = .ok (.iload_n 1, 1) := by decide +kernel
theorem dX6_quotedPrice_25 : decode cX6_quotedPrice 25 = .ok (.iload_n 2, 1) := by decide +kernel
theorem dX6_quotedPrice_26 : decode cX6_quotedPrice 26 = .ok (.invokestatic 69, 3) := by decide +kernel
theorem dX6_quotedPrice_29 : decode cX6_quotedPrice 29 = .ok (.iaload, 1) := by decide +kernel
theorem dX6_quotedPrice_30 : decode cX6_quotedPrice 30 = .ok (.ireturn, 1) := by decide +kernel
set_option maxRecDepth 20000 in
theorem ggX6_appendCharacter_X6_isWithin : GoodIn wsX6_appendCharacter wsX6_isWithin := goodIn_r _ [6] (by decide +kernel) (by decide +kernel)
set_option maxRecDepth 20000 in
theorem gX6_appendCharacter_X6_isWithin : GoodIn wsX6_appendCharacter (va_wsS RX6 43 yX6_isWithin wsX6_isWithin) := goodIn_app (goodIn_of _ (by decide +kernel)) ggX6_appendCharacter_X6_isWithin
set_option maxRecDepth 20000 in
theorem ggX6_appendCharacter_X4_append : GoodIn wsX6_appendCharacter wsX4_append := goodIn_r _ [11, 12, 13, 18, 19, 20, 21, 22, 23] (by decide +kernel) (by decide +kernel)
set_option maxRecDepth 20000 in
theorem gX6_appendCharacter_X4_append : GoodIn wsX6_appendCharacter (wsV RX6 76 RX4 yX4_append wsX4_append) := goodIn_app (goodIn_of _ (by decide +kernel)) ggX6_appendCharacter_X4_append
theorem dX6_appendCharacter_0 : decode cX6_appendCharacter 0 = .ok (.iload_n 1, 1) := by decide +kernel
theorem dX6_appendCharacter_1 : decode cX6_appendCharacter 1 = .ok (.iconst 0, 1) := by decide +kernel
theorem dX6_appendCharacter_2 : decode cX6_appendCharacter 2 = .ok (.sipush 255, 3) := by decide +kernel
theorem dX6_appendCharacter_5 : decode cX6_appendCharacter 5 = .ok (.invokestatic 43, 3) := by decide +kernel
theorem dX6_appendCharacter_8 : decode cX6_appendCharacter 8 = .ok (.ifCond .ne 5, 3) := by decide +kernel
theorem dX6_appendCharacter_11 : decode cX6_appendCharacter 11 = .ok (.iconst (-1), 1) := by decide +kernel
theorem dX6_appendCharacter_12 : decode cX6_appendCharacter 12 = .ok (.ireturn, 1) := by decide +kernel
theorem dX6_appendCharacter_13 : decode cX6_appendCharacter 13 = .ok (.aload_n 0, 1) := by decide +kernel
theorem dX6_appendCharacter_14 : decode cX6_appendCharacter 14 = .ok (.getfield 26, 3) := by decide +kernel
theorem dX6_appendCharacter_17 : decode cX6_appendCharacter 17 = .ok (.getfield 73, 3) := by decide +kernel
theorem dX6_appendCharacter_20 : decode cX6_appendCharacter 20 = .ok (.bipush 60, 2) := by decide +kernel
theorem dX6_appendCharacter_22 : decode cX6_appendCharacter 22 = .ok (.if_icmp .lt 6, 3) := by decide +kernel
theorem dX6_appendCharacter_25 : decode cX6_appendCharacter 25 = .ok (.bipush (-3), 2) := by decide +kernel
theorem dX6_appendCharacter_27 : decode cX6_appendCharacter 27 = .ok (.ireturn, 1) := by decide +kernel
theorem dX6_appendCharacter_28 : decode cX6_appendCharacter 28 = .ok (.aload_n 0, 1) := by decide +kernel
theorem dX6_appendCharacter_29 : decode cX6_appendCharacter 29 = .ok (.getfield 26, 3) := by decide +kernel
theorem dX6_appendCharacter_32 : decode cX6_appendCharacter 32 = .ok (.iload_n 1, 1) := by decide +kernel
theorem dX6_appendCharacter_33 : decode cX6_appendCharacter 33 = .ok (.invokevirtual 76, 3) := by decide +kernel
theorem dX6_appendCharacter_36 : decode cX6_appendCharacter 36 = .ok (.ireturn, 1) := by decide +kernel
set_option maxRecDepth 20000 in
theorem ggX6_clearText_X4_clear : GoodIn wsX6_clearText wsX4_clear := goodIn_r _ [6, 7, 12, 13, 14, 15, 16, 17] (by decide +kernel) (by decide +kernel)
set_option maxRecDepth 20000 in
theorem gX6_clearText_X4_clear : GoodIn wsX6_clearText (wsV RX6 79 RX4 yX4_clear wsX4_clear) := goodIn_app (goodIn_of _ (by decide +kernel)) ggX6_clearText_X4_clear
theorem dX6_clearText_0 : decode cX6_clearText 0 = .ok (.aload_n 0, 1) := by decide +kernel
theorem dX6_clearText_1 : decode cX6_clearText 1 = .ok (.getfield 26, 3) := by decide +kernel
theorem dX6_clearText_4 : decode cX6_clearText 4 = .ok (.invokevirtual 79, 3) := by decide +kernel
theorem dX6_clearText_7 : decode cX6_clearText 7 = .ok (.ireturn, 1) := by decide +kernel
set_option maxRecDepth 20000 in
theorem ggX6_importPrices_X4_read : GoodIn wsX6_importPrices wsX4_read := goodIn_r _ [12, 13, 14, 15, 16, 17, 11, 18, 19, 20, 21, 22, 23, 24, 25, 26, 27, 28, 29, 30, 31, 32, 33, 34, 35, 36, 37, 38, 100, 101, 102, 103, 104, 105] (by decide +kernel) (by decide +kernel)
set_option maxRecDepth 20000 in
theorem gX6_importPrices_X4_read : GoodIn wsX6_importPrices (wsV RX6 83 RX4 yX4_read wsX4_read) := goodIn_app (goodIn_of _ (by decide +kernel)) ggX6_importPrices_X4_read
set_option maxRecDepth 20000 in
theorem ggX6_importPrices_X6_beginEdit : GoodIn wsX6_importPrices wsX6_beginEdit := goodIn_r _ [43, 44, 2, 45, 46, 47, 48, 49, 50, 51, 52, 53, 54, 55, 56, 57, 58, 59, 60, 61, 62, 63, 64, 65, 66, 67, 68, 69, 70, 71, 72, 73, 74, 75, 76, 77, 78, 86, 87, 88, 89, 106, 107, 108, 90, 91, 92, 93, 94, 95, 96, 97, 98, 99, 109, 110, 111, 112] (by decide +kernel) (by decide +kernel)
set_option maxRecDepth 20000 in
theorem gX6_importPrices_X6_beginEdit : GoodIn wsX6_importPrices (wsV RX6 51 RX6 yX6_beginEdit wsX6_beginEdit) := goodIn_app (goodIn_of _ (by decide +kernel)) ggX6_importPrices_X6_beginEdit
set_option maxRecDepth 20000 in
theorem ggX6_importPrices_X6_cell : GoodIn wsX6_importPrices wsX6_cell := goodIn_r _ [81] (by decide +kernel) (by decide +kernel)
set_option maxRecDepth 20000 in
theorem gX6_importPrices_X6_cell : GoodIn wsX6_importPrices (va_wsS RX6 69 yX6_cell wsX6_cell) := goodIn_app (goodIn_of _ (by decide +kernel)) ggX6_importPrices_X6_cell
set_option maxRecDepth 20000 in
theorem ggX6_importPrices_X4_clear : GoodIn wsX6_importPrices wsX4_clear := goodIn_r _ [85, 14, 100, 101, 102, 103, 104, 105] (by decide +kernel) (by decide +kernel)
set_option maxRecDepth 20000 in
theorem gX6_importPrices_X4_clear : GoodIn wsX6_importPrices (wsV RX6 79 RX4 yX4_clear wsX4_clear) := goodIn_app (goodIn_of _ (by decide +kernel)) ggX6_importPrices_X4_clear
theorem dX6_importPrices_0 : decode cX6_importPrices 0 = .ok (.aload_n 0, 1) := by decide +kernel
theorem dX6_importPrices_1 : decode cX6_importPrices 1 = .ok (.getfield 26, 3) := by decide +kernel
theorem dX6_importPrices_4 : decode cX6_importPrices 4 = .ok (.aload_n 0, 1) := by decide +kernel
theorem dX6_importPrices_5 : decode cX6_importPrices 5 = .ok (.getfield 12, 3) := by decide +kernel
theorem dX6_importPrices_8 : decode cX6_importPrices 8 = .ok (.getfield 47, 3) := by decide +kernel
theorem dX6_importPrices_11 : decode cX6_importPrices 11 = .ok (.invokevirtual 83, 3) := by decide +kernel
theorem dX6_importPrices_14 : decode cX6_importPrices 14 = .ok (.istore_n 1, 1) := by decide +kernel
theorem dX6_importPrices_15 : decode cX6_importPrices 15 = .ok (.iload_n 1, 1) := by decide +kernel
theorem dX6_importPrices_16 : decode cX6_importPrices 16 = .ok (.ifCond .ge 5, 3) := by decide +kernel
theorem dX6_importPrices_19 : decode cX6_importPrices 19 = .ok (.iload_n 1, 1) := by decide +kernel
theorem dX6_importPrices_20 : decode cX6_importPrices 20 = .ok (.ireturn, 1) := by decide +kernel
theorem dX6_importPrices_21 : decode cX6_importPrices 21 = .ok (.aload_n 0, 1) := by decide +kernel
theorem dX6_importPrices_22 : decode cX6_importPrices 22 = .ok (.invokevirtual 51, 3) := by decide +kernel
theorem dX6_importPrices_25 : decode cX6_importPrices 25 = .ok (.iconst 0, 1) := by decide +kernel
theorem dX6_importPrices_26 : decode cX6_importPrices 26 = .ok (.istore_n 2, 1) := by decide +kernel
theorem dX6_importPrices_27 : decode cX6_importPrices 27 = .ok (.iload_n 2, 1) := by decide +kernel
theorem dX6_importPrices_28 : decode cX6_importPrices 28 = .ok (.iload_n 1, 1) := by decide +kernel
theorem dX6_importPrices_29 : decode cX6_importPrices 29 = .ok (.if_icmp .ge 53, 3) := by decide +kernel
theorem dX6_importPrices_32 : decode cX6_importPrices 32 = .ok (.iload_n 2, 1) := by decide +kernel
theorem dX6_importPrices_33 : decode cX6_importPrices 33 = .ok (.bipush 10, 2) := by decide +kernel
theorem dX6_importPrices_35 : decode cX6_importPrices 35 = .ok (.if_icmp .ge 47, 3) := by decide +kernel
theorem dX6_importPrices_38 : decode cX6_importPrices 38 = .ok (.aload_n 0, 1) := by decide +kernel
theorem dX6_importPrices_39 : decode cX6_importPrices 39 = .ok (.getfield 12, 3) := by decide +kernel
theorem dX6_importPrices_42 : decode cX6_importPrices 42 = .ok (.getfield 65, 3) := by decide +kernel
theorem dX6_importPrices_45 : decode cX6_importPrices 45 = .ok (.aload_n 0, 1) := by decide +kernel
theorem dX6_importPrices_46 : decode cX6_importPrices 46 = .ok (.getfield 26, 3) := by decide +kernel
theorem dX6_importPrices_49 : decode cX6_importPrices 49 = .ok (.getfield 86, 3) := by decide +kernel
theorem dX6_importPrices_52 : decode cX6_importPrices 52 = .ok (.iload_n 2, 1) := by decide +kernel
theorem dX6_importPrices_53 : decode cX6_importPrices 53 = .ok (.iaload, 1) := by decide +kernel
theorem dX6_importPrices_54 : decode cX6_importPrices 54 = .ok (.aload_n 0, 1) := by decide +kernel
theorem dX6_importPrices_55 : decode cX6_importPrices 55 = .ok (.getfield 26, 3) := by decide +kernel
theorem dX6_importPrices_58 : decode cX6_importPrices 58 = .ok (.getfield 89, 3) := by decide +kernel
theorem dX6_importPrices_61 : decode cX6_importPrices 61 = .ok (.iload_n 2, 1) := by decide +kernel
theorem dX6_importPrices_62 : decode cX6_importPrices 62 = .ok (.iaload, 1) := by decide +kernel
theorem dX6_importPrices_63 : decode cX6_importPrices 63 = .ok (.invokestatic 69, 3) := by decide +kernel
theorem dX6_importPrices_66 : decode cX6_importPrices 66 = .ok (.aload_n 0, 1) := by decide +kernel
theorem dX6_importPrices_67 : decode cX6_importPrices 67 = .ok (.getfield 26, 3) := by decide +kernel
theorem dX6_importPrices_70 : decode cX6_importPrices 70 = .ok (.getfield 92, 3) := by decide +kernel
theorem dX6_importPrices_73 : decode cX6_importPrices 73 = .ok (.iload_n 2, 1) := by decide +kernel
theorem dX6_importPrices_74 : decode cX6_importPrices 74 = .ok (.iaload, 1) := by decide +kernel
theorem dX6_importPrices_75 : decode cX6_importPrices 75 = .ok (.iastore, 1) := by decide +kernel
theorem dX6_importPrices_76 : decode cX6_importPrices 76 = .ok (.iinc 2 1, 3) := by decide +kernel
theorem dX6_importPrices_79 : decode cX6_importPrices 79 = .ok (.goto (-52), 3) := by decide +kernel
theorem dX6_importPrices_82 : decode cX6_importPrices 82 = .ok (.aload_n 0, 1) := by decide +kernel
theorem dX6_importPrices_83 : decode cX6_importPrices 83 = .ok (.getfield 26, 3) := by decide +kernel
theorem dX6_importPrices_86 : decode cX6_importPrices 86 = .ok (.invokevirtual 79, 3) := by decide +kernel
theorem dX6_importPrices_89 : decode cX6_importPrices 89 = .ok (.pop, 1) := by decide +kernel
theorem dX6_importPrices_90 : decode cX6_importPrices 90 = .ok (.iload_n 1, 1) := by decide +kernel
theorem dX6_importPrices_91 : decode cX6_importPrices 91 = .ok (.ireturn, 1) := by decide +kernel
set_option maxRecDepth 20000 in
theorem ggX6_replaceItem_X6_isItem : GoodIn wsX6_replaceItem wsX6_isItem := goodIn_r _ [6, 1, 7, 72, 73, 74, 75, 76, 77, 78, 79, 80, 81, 82, 83, 84, 85] (by decide +kernel) (by decide +kernel)
set_option maxRecDepth 20000 in
theorem gX6_replaceItem_X6_isItem : GoodIn wsX6_replaceItem (wsV RX6 58 RX6 yX6_isItem wsX6_isItem) := goodIn_app (goodIn_of _ (by decide +kernel)) ggX6_replaceItem_X6_isItem
set_option maxRecDepth 20000 in
theorem ggX6_replaceItem_X6_isMonth : GoodIn wsX6_replaceItem wsX6_isMonth := goodIn_r _ [10] (by decide +kernel) (by decide +kernel)
set_option maxRecDepth 20000 in
theorem gX6_replaceItem_X6_isMonth : GoodIn wsX6_replaceItem (va_wsS RX6 61 yX6_isMonth wsX6_isMonth) := goodIn_app (goodIn_of _ (by decide +kernel)) ggX6_replaceItem_X6_isMonth
set_option maxRecDepth 20000 in
theorem ggX6_replaceItem_X0_canLink : GoodIn wsX6_replaceItem wsX0_canLink := goodIn_r _ [15, 16, 17, 18, 19, 14, 20, 21, 22, 23, 24, 25, 26, 27, 28, 29, 5, 30, 76, 77, 78, 79, 80, 81, 82, 83, 84, 85] (by decide +kernel) (by decide +kernel)
set_option maxRecDepth 20000 in
theorem gX6_replaceItem_X0_canLink : GoodIn wsX6_replaceItem (wsV RX6 95 RX0 yX0_canLink wsX0_canLink) := goodIn_app (goodIn_of _ (by decide +kernel)) ggX6_replaceItem_X0_canLink
set_option maxRecDepth 20000 in
theorem ggX6_replaceItem_X6_beginEdit : GoodIn wsX6_replaceItem wsX6_beginEdit := goodIn_r _ [34, 35, 1, 36, 37, 38, 39, 40, 41, 42, 43, 44, 45, 46, 47, 14, 48, 49, 50, 51, 52, 53, 54, 55, 16, 56, 27, 21, 22, 57, 28, 58, 59, 60, 61, 62, 63, 72, 73, 74, 75, 86, 87, 88, 76, 77, 78, 79, 80, 81, 82, 83, 84, 85, 89, 90, 91, 92] (by decide +kernel) (by decide +kernel)
set_option maxRecDepth 20000 in
theorem gX6_replaceItem_X6_beginEdit : GoodIn wsX6_replaceItem (wsV RX6 51 RX6 yX6_beginEdit wsX6_beginEdit) := goodIn_app (goodIn_of _ (by decide +kernel)) ggX6_replaceItem_X6_beginEdit
set_option maxRecDepth 20000 in
theorem ggX6_replaceItem_X0_link : GoodIn wsX6_replaceItem wsX0_link := goodIn_r _ [67, 21, 22, 57, 76, 77, 78, 79, 80, 81, 82, 83, 84, 85] (by decide +kernel) (by decide +kernel)
set_option maxRecDepth 20000 in
theorem gX6_replaceItem_X0_link : GoodIn wsX6_replaceItem (wsV RX6 98 RX0 yX0_link wsX0_link) := goodIn_app (goodIn_of _ (by decide +kernel)) ggX6_replaceItem_X0_link
set_option maxRecDepth 20000 in
theorem ggX6_replaceItem_X0_linkCount : GoodIn wsX6_replaceItem wsX0_linkCount := goodIn_r _ [71, 49, 21, 76, 77, 78, 79, 80, 81, 82, 83, 84, 85] (by decide +kernel) (by decide +kernel)
set_option maxRecDepth 20000 in
theorem gX6_replaceItem_X0_linkCount : GoodIn wsX6_replaceItem (wsV RX6 102 RX0 yX0_linkCount wsX0_linkCount) := goodIn_app (goodIn_of _ (by decide +kernel)) ggX6_replaceItem_X0_linkCount
theorem dX6_replaceItem_0 : decode cX6_replaceItem 0 = .ok (.aload_n 0, 1) := by decide +kernel
theorem dX6_replaceItem_1 : decode cX6_replaceItem 1 = .ok (.iload_n 1, 1) := by decide +kernel
theorem dX6_replaceItem_2 : decode cX6_replaceItem 2 = .ok (.invokevirtual 58, 3) := by decide +kernel
theorem dX6_replaceItem_5 : decode cX6_replaceItem 5 = .ok (.ifCond .eq 23, 3) := by decide +kernel
theorem dX6_replaceItem_8 : decode cX6_replaceItem 8 = .ok (.aload_n 0, 1) := by decide +kernel
theorem dX6_replaceItem_9 : decode cX6_replaceItem 9 = .ok (.iload_n 2, 1) := by decide +kernel
theorem dX6_replaceItem_10 : decode cX6_replaceItem 10 = .ok (.invokevirtual 58, 3) := by decide +kernel
theorem dX6_replaceItem_13 : decode cX6_replaceItem 13 = .ok (.ifCond .eq 15, 3) := by decide +kernel
theorem dX6_replaceItem_16 : decode cX6_replaceItem 16 = .ok (.iload_n 1, 1) := by decide +kernel
theorem dX6_replaceItem_17 : decode cX6_replaceItem 17 = .ok (.iload_n 2, 1) := by decide +kernel
theorem dX6_replaceItem_18 : decode cX6_replaceItem 18 = .ok (.if_icmp .eq 10, 3) := by decide +kernel
theorem dX6_replaceItem_21 : decode cX6_replaceItem 21 = .ok (.iload_n 3, 1) := by decide +kernel
theorem dX6_replaceItem_22 : decode cX6_replaceItem 22 = .ok (.invokestatic 61, 3) := by decide +kernel
theorem dX6_replaceItem_25 : decode cX6_replaceItem 25 = .ok (.ifCond .ne 5, 3) := by decide +kernel
theorem dX6_replaceItem_28 : decode cX6_replaceItem 28 = .ok (.iconst (-1), 1) := by decide +kernel
theorem dX6_replaceItem_29 : decode cX6_replaceItem 29 = .ok (.ireturn, 1) := by decide +kernel
theorem dX6_replaceItem_30 : decode cX6_replaceItem 30 = .ok (.aload_n 0, 1) := by decide +kernel
theorem dX6_replaceItem_31 : decode cX6_replaceItem 31 = .ok (.getfield 12, 3) := by decide +kernel
theorem dX6_replaceItem_34 : decode cX6_replaceItem 34 = .ok (.iload_n 1, 1) := by decide +kernel
theorem dX6_replaceItem_35 : decode cX6_replaceItem 35 = .ok (.iload_n 2, 1) := by decide +kernel
theorem dX6_replaceItem_36 : decode cX6_replaceItem 36 = .ok (.iload_n 3, 1) := by decide +kernel
theorem dX6_replaceItem_37 : decode cX6_replaceItem 37 = .ok (.invokevirtual 95, 3) := by decide +kernel
theorem dX6_replaceItem_40 : decode cX6_replaceItem 40 = .ok (.ifCond .ne 6, 3) := by decide +kernel
theorem dX6_replaceItem_43 : decode cX6_replaceItem 43 = .ok (.bipush (-2), 2) := by decide +kernel
theorem dX6_replaceItem_45 : decode cX6_replaceItem 45 = .ok (.ireturn, 1) := by decide +kernel
theorem dX6_replaceItem_46 : decode cX6_replaceItem 46 = .ok (.aload_n 0, 1) := by decide +kernel
theorem dX6_replaceItem_47 : decode cX6_replaceItem 47 = .ok (.invokevirtual 51, 3) := by decide +kernel
theorem dX6_replaceItem_50 : decode cX6_replaceItem 50 = .ok (.aload_n 0, 1) := by decide +kernel
theorem dX6_replaceItem_51 : decode cX6_replaceItem 51 = .ok (.getfield 12, 3) := by decide +kernel
theorem dX6_replaceItem_54 : decode cX6_replaceItem 54 = .ok (.iload_n 1, 1) := by decide +kernel
theorem dX6_replaceItem_55 : decode cX6_replaceItem 55 = .ok (.iload_n 2, 1) := by decide +kernel
theorem dX6_replaceItem_56 : decode cX6_replaceItem 56 = .ok (.iload_n 3, 1) := by decide +kernel
theorem dX6_replaceItem_57 : decode cX6_replaceItem 57 = .ok (.invokevirtual 98, 3) := by decide +kernel
theorem dX6_replaceItem_60 : decode cX6_replaceItem 60 = .ok (.aload_n 0, 1) := by decide +kernel
theorem dX6_replaceItem_61 : decode cX6_replaceItem 61 = .ok (.getfield 12, 3) := by decide +kernel
theorem dX6_replaceItem_64 : decode cX6_replaceItem 64 = .ok (.invokevirtual 102, 3) := by decide +kernel
theorem dX6_replaceItem_67 : decode cX6_replaceItem 67 = .ok (.ireturn, 1) := by decide +kernel
set_option maxRecDepth 20000 in
theorem ggX6_endReplacement_X6_isItem : GoodIn wsX6_endReplacement wsX6_isItem := goodIn_r _ [6, 1, 7, 59, 60, 61, 62, 63, 64, 65, 66, 67, 68, 69, 70, 71, 72] (by decide +kernel) (by decide +kernel)
set_option maxRecDepth 20000 in
theorem gX6_endReplacement_X6_isItem : GoodIn wsX6_endReplacement (wsV RX6 58 RX6 yX6_isItem wsX6_isItem) := goodIn_app (goodIn_of _ (by decide +kernel)) ggX6_endReplacement_X6_isItem
set_option maxRecDepth 20000 in
theorem ggX6_endReplacement_X0_isLinked : GoodIn wsX6_endReplacement wsX0_isLinked := goodIn_r _ [12, 13, 14, 63, 64, 65, 66, 67, 68, 69, 70, 71, 72] (by decide +kernel) (by decide +kernel)
set_option maxRecDepth 20000 in
theorem gX6_endReplacement_X0_isLinked : GoodIn wsX6_endReplacement (wsV RX6 105 RX0 yX0_isLinked wsX0_isLinked) := goodIn_app (goodIn_of _ (by decide +kernel)) ggX6_endReplacement_X0_isLinked
set_option maxRecDepth 20000 in
theorem ggX6_endReplacement_X6_beginEdit : GoodIn wsX6_endReplacement wsX6_beginEdit := goodIn_r _ [18, 19, 1, 20, 21, 22, 23, 24, 25, 26, 27, 28, 29, 30, 31, 11, 32, 33, 34, 35, 36, 37, 38, 39, 40, 41, 42, 13, 14, 43, 44, 45, 46, 47, 48, 49, 50, 59, 60, 61, 62, 73, 74, 75, 63, 64, 65, 66, 67, 68, 69, 70, 71, 72, 76, 77, 78, 79] (by decide +kernel) (by decide +kernel)
set_option maxRecDepth 20000 in
theorem gX6_endReplacement_X6_beginEdit : GoodIn wsX6_endReplacement (wsV RX6 51 RX6 yX6_beginEdit wsX6_beginEdit) := goodIn_app (goodIn_of _ (by decide +kernel)) ggX6_endReplacement_X6_beginEdit
set_option maxRecDepth 20000 in
theorem ggX6_endReplacement_X0_unlink : GoodIn wsX6_endReplacement wsX0_unlink := goodIn_r _ [54, 14, 13, 63, 64, 65, 66, 67, 68, 69, 70, 71, 72] (by decide +kernel) (by decide +kernel)
set_option maxRecDepth 20000 in
theorem gX6_endReplacement_X0_unlink : GoodIn wsX6_endReplacement (wsV RX6 108 RX0 yX0_unlink wsX0_unlink) := goodIn_app (goodIn_of _ (by decide +kernel)) ggX6_endReplacement_X0_unlink
set_option maxRecDepth 20000 in
theorem ggX6_endReplacement_X0_linkCount : GoodIn wsX6_endReplacement wsX0_linkCount := goodIn_r _ [58, 33, 13, 63, 64, 65, 66, 67, 68, 69, 70, 71, 72] (by decide +kernel) (by decide +kernel)
set_option maxRecDepth 20000 in
theorem gX6_endReplacement_X0_linkCount : GoodIn wsX6_endReplacement (wsV RX6 102 RX0 yX0_linkCount wsX0_linkCount) := goodIn_app (goodIn_of _ (by decide +kernel)) ggX6_endReplacement_X0_linkCount
theorem dX6_endReplacement_0 : decode cX6_endReplacement 0 = .ok (.aload_n 0, 1) := by decide +kernel
theorem dX6_endReplacement_1 : decode cX6_endReplacement 1 = .ok (.iload_n 1, 1) := by decide +kernel
theorem dX6_endReplacement_2 : decode cX6_endReplacement 2 = .ok (.invokevirtual 58, 3) := by decide +kernel
theorem dX6_endReplacement_5 : decode cX6_endReplacement 5 = .ok (.ifCond .ne 5, 3) := by decide +kernel
theorem dX6_endReplacement_8 : decode cX6_endReplacement 8 = .ok (.iconst (-1), 1) := by decide +kernel
theorem dX6_endReplacement_9 : decode cX6_endReplacement 9 = .ok (.ireturn, 1) := by decide +kernel
theorem dX6_endReplacement_10 : decode cX6_endReplacement 10 = .ok (.aload_n 0, 1) := by decide +kernel
theorem dX6_endReplacement_11 : decode cX6_endReplacement 11 = .ok (.getfield 12, 3) := by decide +kernel
theorem dX6_endReplacement_14 : decode cX6_endReplacement 14 = .ok (.iload_n 1, 1) := by decide +kernel
theorem dX6_endReplacement_15 : decode cX6_endReplacement 15 = .ok (.invokevirtual 105, 3) := by decide +kernel
theorem dX6_endReplacement_18 : decode cX6_endReplacement 18 = .ok (.ifCond .ne 6, 3) := by decide +kernel
theorem dX6_endReplacement_21 : decode cX6_endReplacement 21 = .ok (.bipush (-2), 2) := by decide +kernel
theorem dX6_endReplacement_23 : decode cX6_endReplacement 23 = .ok (.ireturn, 1) := by decide +kernel
theorem dX6_endReplacement_24 : decode cX6_endReplacement 24 = .ok (.aload_n 0, 1) := by decide +kernel
theorem dX6_endReplacement_25 : decode cX6_endReplacement 25 = .ok (.invokevirtual 51, 3) := by decide +kernel
theorem dX6_endReplacement_28 : decode cX6_endReplacement 28 = .ok (.aload_n 0, 1) := by decide +kernel
theorem dX6_endReplacement_29 : decode cX6_endReplacement 29 = .ok (.getfield 12, 3) := by decide +kernel
theorem dX6_endReplacement_32 : decode cX6_endReplacement 32 = .ok (.iload_n 1, 1) := by decide +kernel
theorem dX6_endReplacement_33 : decode cX6_endReplacement 33 = .ok (.invokevirtual 108, 3) := by decide +kernel
theorem dX6_endReplacement_36 : decode cX6_endReplacement 36 = .ok (.aload_n 0, 1) := by decide +kernel
theorem dX6_endReplacement_37 : decode cX6_endReplacement 37 = .ok (.getfield 12, 3) := by decide +kernel
theorem dX6_endReplacement_40 : decode cX6_endReplacement 40 = .ok (.invokevirtual 102, 3) := by decide +kernel
theorem dX6_endReplacement_43 : decode cX6_endReplacement 43 = .ok (.ireturn, 1) := by decide +kernel
set_option maxRecDepth 20000 in
theorem ggX6_replacementOf_X6_isItem : GoodIn wsX6_replacementOf wsX6_isItem := goodIn_r _ [7, 1, 8, 9, 10, 11, 12, 13, 14, 15, 16, 17, 18, 19, 20, 21, 22] (by decide +kernel) (by decide +kernel)
set_option maxRecDepth 20000 in
theorem gX6_replacementOf_X6_isItem : GoodIn wsX6_replacementOf (wsV RX6 58 RX6 yX6_isItem wsX6_isItem) := goodIn_app (goodIn_of _ (by decide +kernel)) ggX6_replacementOf_X6_isItem
theorem dX6_replacementOf_0 : decode cX6_replacementOf 0 = .ok (.aload_n 0, 1) := by decide +kernel
theorem dX6_replacementOf_1 : decode cX6_replacementOf 1 = .ok (.iload_n 1, 1) := by decide +kernel
theorem dX6_replacementOf_2 : decode cX6_replacementOf 2 = .ok (.invokevirtual 58, 3) := by decide +kernel
theorem dX6_replacementOf_5 : decode cX6_replacementOf 5 = .ok (.ifCond .ne 5, 3) := by decide +kernel
theorem dX6_replacementOf_8 : decode cX6_replacementOf 8 = .ok (.iconst (-1), 1) := by decide +kernel
theorem dX6_replacementOf_9 : decode cX6_replacementOf 9 = .ok (.ireturn, 1) := by decide +kernel
theorem dX6_replacementOf_10 : decode cX6_replacementOf 10 = .ok (.aload_n 0, 1) := by decide +kernel
theorem dX6_replacementOf_11 : decode cX6_replacementOf 11 = .ok (.getfield 12, 3) := by decide +kernel
theorem dX6_replacementOf_14 : decode cX6_replacementOf 14 = .ok (.getfield 112, 3) := by decide +kernel
theorem dX6_replacementOf_17 : decode cX6_replacementOf 17 = .ok (.iload_n 1, 1) := by decide +kernel
theorem dX6_replacementOf_18 : decode cX6_replacementOf 18 = .ok (.iaload, 1) := by decide +kernel
theorem dX6_replacementOf_19 : decode cX6_replacementOf 19 = .ok (.istore_n 2, 1) := by decide +kernel
theorem dX6_replacementOf_20 : decode cX6_replacementOf 20 = .ok (.iload_n 2, 1) := by decide +kernel
theorem dX6_replacementOf_21 : decode cX6_replacementOf 21 = .ok (.iconst (-1), 1) := by decide +kernel
theorem dX6_replacementOf_22 : decode cX6_replacementOf 22 = .ok (.if_icmp .ne 8, 3) := by decide +kernel
theorem dX6_replacementOf_25 : decode cX6_replacementOf 25 = .ok (.bipush (-9), 2) := by decide +kernel
theorem dX6_replacementOf_27 : decode cX6_replacementOf 27 = .ok (.goto 4, 3) := by decide +kernel
theorem dX6_replacementOf_30 : decode cX6_replacementOf 30 = .ok (.iload_n 2, 1) := by decide +kernel
theorem dX6_replacementOf_31 : decode cX6_replacementOf 31 = .ok (.ireturn, 1) := by decide +kernel
set_option maxRecDepth 20000 in
theorem ggX6_setWeight_X6_isStratum : GoodIn wsX6_setWeight wsX6_isStratum := goodIn_r _ [6] (by decide +kernel) (by decide +kernel)
set_option maxRecDepth 20000 in
theorem gX6_setWeight_X6_isStratum : GoodIn wsX6_setWeight (va_wsS RX6 39 yX6_isStratum wsX6_isStratum) := goodIn_app (goodIn_of _ (by decide +kernel)) ggX6_setWeight_X6_isStratum
set_option maxRecDepth 20000 in
theorem ggX6_setWeight_X6_isWithin : GoodIn wsX6_setWeight wsX6_isWithin := goodIn_r _ [9] (by decide +kernel) (by decide +kernel)
set_option maxRecDepth 20000 in
theorem gX6_setWeight_X6_isWithin : GoodIn wsX6_setWeight (va_wsS RX6 43 yX6_isWithin wsX6_isWithin) := goodIn_app (goodIn_of _ (by decide +kernel)) ggX6_setWeight_X6_isWithin
set_option maxRecDepth 20000 in
theorem ggX6_setWeight_X6_beginEdit : GoodIn wsX6_setWeight wsX6_beginEdit := goodIn_r _ [13, 14, 1, 15, 16, 17, 18, 19, 20, 21, 22, 23, 24, 25, 26, 27, 28, 29, 30, 31, 32, 33, 34, 35, 36, 37, 38, 39, 40, 41, 42, 43, 44, 45, 46, 47, 48, 49, 50, 51, 52, 63, 64, 65, 53, 54, 55, 56, 57, 58, 59, 60, 61, 62, 66, 67, 68, 69] (by decide +kernel) (by decide +kernel)
set_option maxRecDepth 20000 in
theorem gX6_setWeight_X6_beginEdit : GoodIn wsX6_setWeight (wsV RX6 51 RX6 yX6_beginEdit wsX6_beginEdit) := goodIn_app (goodIn_of _ (by decide +kernel)) ggX6_setWeight_X6_beginEdit
theorem dX6_setWeight_0 : decode cX6_setWeight 0 = .ok (.iload_n 1, 1) := by decide +kernel
theorem dX6_setWeight_1 : decode cX6_setWeight 1 = .ok (.invokestatic 39, 3) := by decide +kernel
theorem dX6_setWeight_4 : decode cX6_setWeight 4 = .ok (.ifCond .eq 13, 3) := by decide +kernel
theorem dX6_setWeight_7 : decode cX6_setWeight 7 = .ok (.iload_n 2, 1) := by decide +kernel
theorem dX6_setWeight_8 : decode cX6_setWeight 8 = .ok (.iconst 0, 1) := by decide +kernel
theorem dX6_setWeight_9 : decode cX6_setWeight 9 = .ok (.bipush 100, 2) := by decide +kernel
theorem dX6_setWeight_11 : decode cX6_setWeight 11 = .ok (.invokestatic 43, 3) := by decide +kernel
theorem dX6_setWeight_14 : decode cX6_setWeight 14 = .ok (.ifCond .ne 5, 3) := by decide +kernel
theorem dX6_setWeight_17 : decode cX6_setWeight 17 = .ok (.iconst (-1), 1) := by decide +kernel
theorem dX6_setWeight_18 : decode cX6_setWeight 18 = .ok (.ireturn, 1) := by decide +kernel
theorem dX6_setWeight_19 : decode cX6_setWeight 19 = .ok (.aload_n 0, 1) := by decide +kernel
theorem dX6_setWeight_20 : decode cX6_setWeight 20 = .ok (.getfield 12, 3) := by decide +kernel
theorem dX6_setWeight_23 : decode cX6_setWeight 23 = .ok (.getfield 115, 3) := by decide +kernel
theorem dX6_setWeight_26 : decode cX6_setWeight 26 = .ok (.iload_n 1, 1) := by decide +kernel
theorem dX6_setWeight_27 : decode cX6_setWeight 27 = .ok (.iaload, 1) := by decide +kernel
theorem dX6_setWeight_28 : decode cX6_setWeight 28 = .ok (.istore_n 3, 1) := by decide +kernel
theorem dX6_setWeight_29 : decode cX6_setWeight 29 = .ok (.aload_n 0, 1) := by decide +kernel
theorem dX6_setWeight_30 : decode cX6_setWeight 30 = .ok (.invokevirtual 51, 3) := by decide +kernel
theorem dX6_setWeight_33 : decode cX6_setWeight 33 = .ok (.aload_n 0, 1) := by decide +kernel
theorem dX6_setWeight_34 : decode cX6_setWeight 34 = .ok (.getfield 12, 3) := by decide +kernel
theorem dX6_setWeight_37 : decode cX6_setWeight 37 = .ok (.getfield 115, 3) := by decide +kernel
theorem dX6_setWeight_40 : decode cX6_setWeight 40 = .ok (.iload_n 1, 1) := by decide +kernel
theorem dX6_setWeight_41 : decode cX6_setWeight 41 = .ok (.iload_n 2, 1) := by decide +kernel
theorem dX6_setWeight_42 : decode cX6_setWeight 42 = .ok (.iastore, 1) := by decide +kernel
theorem dX6_setWeight_43 : decode cX6_setWeight 43 = .ok (.iload_n 3, 1) := by decide +kernel
theorem dX6_setWeight_44 : decode cX6_setWeight 44 = .ok (.ireturn, 1) := by decide +kernel
set_option maxRecDepth 20000 in
theorem ggX6_setFormula_X6_isWithin : GoodIn wsX6_setFormula wsX6_isWithin := goodIn_r _ [6] (by decide +kernel) (by decide +kernel)
set_option maxRecDepth 20000 in
theorem gX6_setFormula_X6_isWithin : GoodIn wsX6_setFormula (va_wsS RX6 43 yX6_isWithin wsX6_isWithin) := goodIn_app (goodIn_of _ (by decide +kernel)) ggX6_setFormula_X6_isWithin
set_option maxRecDepth 20000 in
theorem ggX6_setFormula_X6_beginEdit : GoodIn wsX6_setFormula wsX6_beginEdit := goodIn_r _ [10, 11, 1, 12, 13, 14, 15, 16, 17, 18, 19, 20, 21, 22, 23, 24, 25, 26, 27, 28, 29, 30, 31, 32, 33, 34, 35, 36, 37, 38, 39, 40, 41, 42, 43, 44, 45, 46, 47, 48, 49, 60, 61, 62, 50, 51, 52, 53, 54, 55, 56, 57, 58, 59, 63, 64, 65, 66] (by decide +kernel) (by decide +kernel)
set_option maxRecDepth 20000 in
theorem gX6_setFormula_X6_beginEdit : GoodIn wsX6_setFormula (wsV RX6 51 RX6 yX6_beginEdit wsX6_beginEdit) := goodIn_app (goodIn_of _ (by decide +kernel)) ggX6_setFormula_X6_beginEdit
theorem dX6_setFormula_0 : decode cX6_setFormula 0 = .ok (.iload_n 1, 1) := by decide +kernel
theorem dX6_setFormula_1 : decode cX6_setFormula 1 = .ok (.iconst 0, 1) := by decide +kernel
theorem dX6_setFormula_2 : decode cX6_setFormula 2 = .ok (.iconst 2, 1) := by decide +kernel
theorem dX6_setFormula_3 : decode cX6_setFormula 3 = .ok (.invokestatic 43, 3) := by decide +kernel
theorem dX6_setFormula_6 : decode cX6_setFormula 6 = .ok (.ifCond .ne 5, 3) := by decide +kernel
theorem dX6_setFormula_9 : decode cX6_setFormula 9 = .ok (.iconst (-1), 1) := by decide +kernel
theorem dX6_setFormula_10 : decode cX6_setFormula 10 = .ok (.ireturn, 1) := by decide +kernel
theorem dX6_setFormula_11 : decode cX6_setFormula 11 = .ok (.aload_n 0, 1) := by decide +kernel
theorem dX6_setFormula_12 : decode cX6_setFormula 12 = .ok (.getfield 12, 3) := by decide +kernel
theorem dX6_setFormula_15 : decode cX6_setFormula 15 = .ok (.getfield 118, 3) := by decide +kernel
theorem dX6_setFormula_18 : decode cX6_setFormula 18 = .ok (.istore_n 2, 1) := by decide +kernel
theorem dX6_setFormula_19 : decode cX6_setFormula 19 = .ok (.aload_n 0, 1) := by decide +kernel
theorem dX6_setFormula_20 : decode cX6_setFormula 20 = .ok (.invokevirtual 51, 3) := by decide +kernel
theorem dX6_setFormula_23 : decode cX6_setFormula 23 = .ok (.aload_n 0, 1) := by decide +kernel
theorem dX6_setFormula_24 : decode cX6_setFormula 24 = .ok (.getfield 12, 3) := by decide +kernel
theorem dX6_setFormula_27 : decode cX6_setFormula 27 = .ok (.iload_n 1, 1) := by decide +kernel
theorem dX6_setFormula_28 : decode cX6_setFormula 28 = .ok (.putfield 118, 3) := by decide +kernel
theorem dX6_setFormula_31 : decode cX6_setFormula 31 = .ok (.iload_n 2, 1) := by decide +kernel
theorem dX6_setFormula_32 : decode cX6_setFormula 32 = .ok (.ireturn, 1) := by decide +kernel
set_option maxRecDepth 20000 in
theorem ggX6_knownPriceBits_X6_isItem : GoodIn wsX6_knownPriceBits wsX6_isItem := goodIn_r _ [7, 8, 9, 140, 141, 142, 143, 148, 149, 150, 151, 152, 153, 154, 155, 156, 157] (by decide +kernel) (by decide +kernel)
set_option maxRecDepth 20000 in
theorem gX6_knownPriceBits_X6_isItem : GoodIn wsX6_knownPriceBits (wsV RX6 58 RX6 yX6_isItem wsX6_isItem) := goodIn_app (goodIn_of _ (by decide +kernel)) ggX6_knownPriceBits_X6_isItem
set_option maxRecDepth 20000 in
theorem ggX6_knownPriceBits_X6_isMonth : GoodIn wsX6_knownPriceBits wsX6_isMonth := goodIn_r _ [12] (by decide +kernel) (by decide +kernel)
set_option maxRecDepth 20000 in
theorem gX6_knownPriceBits_X6_isMonth : GoodIn wsX6_knownPriceBits (va_wsS RX6 61 yX6_isMonth wsX6_isMonth) := goodIn_app (goodIn_of _ (by decide +kernel)) ggX6_knownPriceBits_X6_isMonth
set_option maxRecDepth 20000 in
theorem ggX6_knownPriceBits_X3_refresh : GoodIn wsX6_knownPriceBits wsX3_refresh := goodIn_r _ [17, 18, 19, 20, 21, 22, 23, 16, 24, 25, 26, 27, 28, 29, 30, 31, 32, 33, 34, 35, 36, 37, 38, 39, 40, 41, 42, 43, 44, 6, 45, 46, 47, 48, 49, 50, 51, 52, 53, 54, 55, 56, 57, 58, 59, 60, 61, 62, 63, 64, 65, 66, 67, 68, 69, 70, 71, 72, 73, 74, 75, 76, 77, 78, 79, 80, 81, 82, 83, 84, 85, 86, 87, 88, 89, 90, 91, 92, 93, 94, 95, 96, 97, 98, 99, 100, 101, 102, 103, 104, 105, 106, 107, 108, 109, 110, 111, 112, 113, 114, 115, 116, 117, 118, 119, 120, 121, 122, 123, 124, 125, 126, 127, 128, 129, 130, 131, 144, 145, 146, 147, 148, 149, 150, 151, 152, 153, 154, 155, 156, 157, 158, 159, 160] (by decide +kernel) (by decide +kernel)
set_option maxRecDepth 20000 in
theorem gX6_knownPriceBits_X3_refresh : GoodIn wsX6_knownPriceBits (wsV RX6 121 RX3 yX3_refresh wsX3_refresh) := goodIn_app (goodIn_of _ (by decide +kernel)) ggX6_knownPriceBits_X3_refresh
set_option maxRecDepth 20000 in
theorem ggX6_knownPriceBits_X2_has : GoodIn wsX6_knownPriceBits wsX2_has := goodIn_r _ [129, 78, 44, 6, 45, 158, 159, 160] (by decide +kernel) (by decide +kernel)
set_option maxRecDepth 20000 in
theorem gX6_knownPriceBits_X2_has : GoodIn wsX6_knownPriceBits (wsV RX6 128 RX2 yX2_has wsX2_has) := goodIn_app (goodIn_of _ (by decide +kernel)) ggX6_knownPriceBits_X2_has
set_option maxRecDepth 20000 in
theorem ggX6_knownPriceBits_X2_get : GoodIn wsX6_knownPriceBits wsX2_get := goodIn_r _ [112, 79, 44, 6, 45, 158, 159, 160] (by decide +kernel) (by decide +kernel)
set_option maxRecDepth 20000 in
theorem gX6_knownPriceBits_X2_get : GoodIn wsX6_knownPriceBits (wsV RX6 134 RX2 yX2_get wsX2_get) := goodIn_app (goodIn_of _ (by decide +kernel)) ggX6_knownPriceBits_X2_get
set_option maxRecDepth 20000 in
theorem ggX6_knownPriceBits_X5_bits : GoodIn wsX6_knownPriceBits wsX5_bits := goodIn_r _ [136, 137, 138, 139, 59, 60, 57, 61, 62, 63, 64, 65] (by decide +kernel) (by decide +kernel)
set_option maxRecDepth 20000 in
theorem gX6_knownPriceBits_X5_bits : GoodIn wsX6_knownPriceBits (va_wsS RX6 138 yX5_bits wsX5_bits) := goodIn_app (goodIn_of _ (by decide +kernel)) ggX6_knownPriceBits_X5_bits
theorem dX6_knownPriceBits_0 : decode cX6_knownPriceBits 0 = .ok (.aload_n 0, 1) := by decide +kernel
theorem dX6_knownPriceBits_1 : decode cX6_knownPriceBits 1 = .ok (.iload_n 1, 1) := by decide +kernel
theorem dX6_knownPriceBits_2 : decode cX6_knownPriceBits 2 = .ok (.invokevirtual 58, 3) := by decide +kernel
theorem dX6_knownPriceBits_5 : decode cX6_knownPriceBits 5 = .ok (.ifCond .eq 10, 3) := by decide +kernel
theorem dX6_knownPriceBits_8 : decode cX6_knownPriceBits 8 = .ok (.iload_n 2, 1) := by decide +kernel
theorem dX6_knownPriceBits_9 : decode cX6_knownPriceBits 9 = .ok (.invokestatic 61, 3) := by decide +kernel
theorem dX6_knownPriceBits_12 : decode cX6_knownPriceBits 12 = .ok (.ifCond .ne 5, 3) := by decide +kernel
theorem dX6_knownPriceBits_15 : decode cX6_knownPriceBits 15 = .ok (.iconst (-1), 1) := by decide +kernel
theorem dX6_knownPriceBits_16 : decode cX6_knownPriceBits 16 = .ok (.ireturn, 1) := by decide +kernel
theorem dX6_knownPriceBits_17 : decode cX6_knownPriceBits 17 = .ok (.aload_n 0, 1) := by decide +kernel
theorem dX6_knownPriceBits_18 : decode cX6_knownPriceBits 18 = .ok (.getfield 35, 3) := by decide +kernel
theorem dX6_knownPriceBits_21 : decode cX6_knownPriceBits 21 = .ok (.invokevirtual 121, 3) := by decide +kernel
theorem dX6_knownPriceBits_24 : decode cX6_knownPriceBits 24 = .ok (.aload_n 0, 1) := by decide +kernel
theorem dX6_knownPriceBits_25 : decode cX6_knownPriceBits 25 = .ok (.getfield 35, 3) := by decide +kernel
theorem dX6_knownPriceBits_28 : decode cX6_knownPriceBits 28 = .ok (.getfield 124, 3) := by decide +kernel
theorem dX6_knownPriceBits_31 : decode cX6_knownPriceBits 31 = .ok (.iload_n 1, 1) := by decide +kernel
theorem dX6_knownPriceBits_32 : decode cX6_knownPriceBits 32 = .ok (.iload_n 2, 1) := by decide +kernel
theorem dX6_knownPriceBits_33 : decode cX6_knownPriceBits 33 = .ok (.invokevirtual 128, 3) := by decide +kernel
theorem dX6_knownPriceBits_36 : decode cX6_knownPriceBits 36 = .ok (.ifCond .eq 21, 3) := by decide +kernel
theorem dX6_knownPriceBits_39 : decode cX6_knownPriceBits 39 = .ok (.aload_n 0, 1) := by decide +kernel
theorem dX6_knownPriceBits_40 : decode cX6_knownPriceBits 40 = .ok (.getfield 35, 3) := by decide +kernel
theorem dX6_knownPriceBits_43 : decode cX6_knownPriceBits 43 = .ok (.getfield 124, 3) := by decide +kernel
theorem dX6_knownPriceBits_46 : decode cX6_knownPriceBits 46 = .ok (.iload_n 1, 1) := by decide +kernel
theorem dX6_knownPriceBits_47 : decode cX6_knownPriceBits 47 = .ok (.iload_n 2, 1) := by decide +kernel
theorem dX6_knownPriceBits_48 : decode cX6_knownPriceBits 48 = .ok (.invokevirtual 134, 3) := by decide +kernel
