theorem dX7_endReplacement_0 : decode cX7_endReplacement 0 = .ok (.aload_n 0, 1) := by decide +kernel
theorem dX7_endReplacement_1 : decode cX7_endReplacement 1 = .ok (.iload_n 1, 1) := by decide +kernel
theorem dX7_endReplacement_2 : decode cX7_endReplacement 2 = .ok (.invokevirtual 49, 3) := by decide +kernel
theorem dX7_endReplacement_5 : decode cX7_endReplacement 5 = .ok (.ifCond .ne 5, 3) := by decide +kernel
theorem dX7_endReplacement_8 : decode cX7_endReplacement 8 = .ok (.iconst (-1), 1) := by decide +kernel
theorem dX7_endReplacement_9 : decode cX7_endReplacement 9 = .ok (.ireturn, 1) := by decide +kernel
theorem dX7_endReplacement_10 : decode cX7_endReplacement 10 = .ok (.aload_n 0, 1) := by decide +kernel
theorem dX7_endReplacement_11 : decode cX7_endReplacement 11 = .ok (.iload_n 1, 1) := by decide +kernel
theorem dX7_endReplacement_12 : decode cX7_endReplacement 12 = .ok (.invokevirtual 84, 3) := by decide +kernel
theorem dX7_endReplacement_15 : decode cX7_endReplacement 15 = .ok (.ifCond .ne 6, 3) := by decide +kernel
theorem dX7_endReplacement_18 : decode cX7_endReplacement 18 = .ok (.bipush (-2), 2) := by decide +kernel
theorem dX7_endReplacement_20 : decode cX7_endReplacement 20 = .ok (.ireturn, 1) := by decide +kernel
theorem dX7_endReplacement_21 : decode cX7_endReplacement 21 = .ok (.aload_n 0, 1) := by decide +kernel
theorem dX7_endReplacement_22 : decode cX7_endReplacement 22 = .ok (.invokevirtual 46, 3) := by decide +kernel
theorem dX7_endReplacement_25 : decode cX7_endReplacement 25 = .ok (.aload_n 0, 1) := by decide +kernel
theorem dX7_endReplacement_26 : decode cX7_endReplacement 26 = .ok (.getfield 7, 3) := by decide +kernel
theorem dX7_endReplacement_29 : decode cX7_endReplacement 29 = .ok (.bipush 42, 2) := by decide +kernel
theorem dX7_endReplacement_31 : decode cX7_endReplacement 31 = .ok (.iload_n 1, 1) := by decide +kernel
theorem dX7_endReplacement_32 : decode cX7_endReplacement 32 = .ok (.iadd, 1) := by decide +kernel
theorem dX7_endReplacement_33 : decode cX7_endReplacement 33 = .ok (.iaload, 1) := by decide +kernel
theorem dX7_endReplacement_34 : decode cX7_endReplacement 34 = .ok (.bipush (-9), 2) := by decide +kernel
theorem dX7_endReplacement_36 : decode cX7_endReplacement 36 = .ok (.if_icmp .ne 11, 3) := by decide +kernel
theorem dX7_endReplacement_39 : decode cX7_endReplacement 39 = .ok (.aload_n 0, 1) := by decide +kernel
theorem dX7_endReplacement_40 : decode cX7_endReplacement 40 = .ok (.iload_n 1, 1) := by decide +kernel
theorem dX7_endReplacement_41 : decode cX7_endReplacement 41 = .ok (.invokevirtual 81, 3) := by decide +kernel
theorem dX7_endReplacement_44 : decode cX7_endReplacement 44 = .ok (.goto 4, 3) := by decide +kernel
theorem dX7_endReplacement_47 : decode cX7_endReplacement 47 = .ok (.iload_n 1, 1) := by decide +kernel
theorem dX7_endReplacement_48 : decode cX7_endReplacement 48 = .ok (.istore_n 2, 1) := by decide +kernel
theorem dX7_endReplacement_49 : decode cX7_endReplacement 49 = .ok (.aload_n 0, 1) := by decide +kernel
theorem dX7_endReplacement_50 : decode cX7_endReplacement 50 = .ok (.getfield 7, 3) := by decide +kernel
theorem dX7_endReplacement_53 : decode cX7_endReplacement 53 = .ok (.bipush 42, 2) := by decide +kernel
theorem dX7_endReplacement_55 : decode cX7_endReplacement 55 = .ok (.iload_n 2, 1) := by decide +kernel
theorem dX7_endReplacement_56 : decode cX7_endReplacement 56 = .ok (.iadd, 1) := by decide +kernel
theorem dX7_endReplacement_57 : decode cX7_endReplacement 57 = .ok (.bipush (-9), 2) := by decide +kernel
theorem dX7_endReplacement_59 : decode cX7_endReplacement 59 = .ok (.iastore, 1) := by decide +kernel
theorem dX7_endReplacement_60 : decode cX7_endReplacement 60 = .ok (.aload_n 0, 1) := by decide +kernel
theorem dX7_endReplacement_61 : decode cX7_endReplacement 61 = .ok (.getfield 7, 3) := by decide +kernel
theorem dX7_endReplacement_64 : decode cX7_endReplacement 64 = .ok (.bipush 54, 2) := by decide +kernel
theorem dX7_endReplacement_66 : decode cX7_endReplacement 66 = .ok (.iload_n 2, 1) := by decide +kernel
theorem dX7_endReplacement_67 : decode cX7_endReplacement 67 = .ok (.iadd, 1) := by decide +kernel
theorem dX7_endReplacement_68 : decode cX7_endReplacement 68 = .ok (.iconst 0, 1) := by decide +kernel
theorem dX7_endReplacement_69 : decode cX7_endReplacement 69 = .ok (.iastore, 1) := by decide +kernel
theorem dX7_endReplacement_70 : decode cX7_endReplacement 70 = .ok (.aload_n 0, 1) := by decide +kernel
theorem dX7_endReplacement_71 : decode cX7_endReplacement 71 = .ok (.invokevirtual 91, 3) := by decide +kernel
theorem dX7_endReplacement_74 : decode cX7_endReplacement 74 = .ok (.ireturn, 1) := by decide +kernel
set_option maxRecDepth 20000 in
theorem ggX7_replacementOf_X7_isItem : GoodIn wsX7_replacementOf wsX7_isItem := goodIn_r _ [6, 1, 7, 8, 5, 9, 10, 11, 12, 13, 14, 15, 16, 17, 18, 19, 20, 21, 22, 23, 24] (by decide +kernel) (by decide +kernel)
set_option maxRecDepth 20000 in
theorem gX7_replacementOf_X7_isItem : GoodIn wsX7_replacementOf (wsV RX7 49 RX7 yX7_isItem wsX7_isItem) := goodIn_app (goodIn_of _ (by decide +kernel)) ggX7_replacementOf_X7_isItem
theorem dX7_replacementOf_0 : decode cX7_replacementOf 0 = .ok (.aload_n 0, 1) := by decide +kernel
theorem dX7_replacementOf_1 : decode cX7_replacementOf 1 = .ok (.iload_n 1, 1) := by decide +kernel
theorem dX7_replacementOf_2 : decode cX7_replacementOf 2 = .ok (.invokevirtual 49, 3) := by decide +kernel
theorem dX7_replacementOf_5 : decode cX7_replacementOf 5 = .ok (.ifCond .eq 15, 3) := by decide +kernel
theorem dX7_replacementOf_8 : decode cX7_replacementOf 8 = .ok (.aload_n 0, 1) := by decide +kernel
theorem dX7_replacementOf_9 : decode cX7_replacementOf 9 = .ok (.getfield 7, 3) := by decide +kernel
theorem dX7_replacementOf_12 : decode cX7_replacementOf 12 = .ok (.bipush 42, 2) := by decide +kernel
theorem dX7_replacementOf_14 : decode cX7_replacementOf 14 = .ok (.iload_n 1, 1) := by decide +kernel
theorem dX7_replacementOf_15 : decode cX7_replacementOf 15 = .ok (.iadd, 1) := by decide +kernel
theorem dX7_replacementOf_16 : decode cX7_replacementOf 16 = .ok (.iaload, 1) := by decide +kernel
theorem dX7_replacementOf_17 : decode cX7_replacementOf 17 = .ok (.goto 4, 3) := by decide +kernel
theorem dX7_replacementOf_20 : decode cX7_replacementOf 20 = .ok (.iconst (-1), 1) := by decide +kernel
theorem dX7_replacementOf_21 : decode cX7_replacementOf 21 = .ok (.ireturn, 1) := by decide +kernel
set_option maxRecDepth 20000 in
theorem ggX7_setWeight_X7_isStratum : GoodIn wsX7_setWeight wsX7_isStratum := goodIn_r _ [5, 6, 7, 4, 8] (by decide +kernel) (by decide +kernel)
set_option maxRecDepth 20000 in
theorem gX7_setWeight_X7_isStratum : GoodIn wsX7_setWeight (va_wsS RX7 42 yX7_isStratum wsX7_isStratum) := goodIn_app (goodIn_of _ (by decide +kernel)) ggX7_setWeight_X7_isStratum
set_option maxRecDepth 20000 in
theorem ggX7_setWeight_X7_in : GoodIn wsX7_setWeight wsX7_in := goodIn_r _ [8] (by decide +kernel) (by decide +kernel)
set_option maxRecDepth 20000 in
theorem gX7_setWeight_X7_in : GoodIn wsX7_setWeight (va_wsS RX7 38 yX7_in wsX7_in) := goodIn_app (goodIn_of _ (by decide +kernel)) ggX7_setWeight_X7_in
set_option maxRecDepth 20000 in
theorem ggX7_setWeight_X7_edit : GoodIn wsX7_setWeight wsX7_edit := goodIn_r _ [12, 13, 14, 1, 15, 16, 17, 18, 19, 20, 21, 22, 23, 24, 25, 26, 27, 28, 29] (by decide +kernel) (by decide +kernel)
set_option maxRecDepth 20000 in
theorem gX7_setWeight_X7_edit : GoodIn wsX7_setWeight (wsV RX7 46 RX7 yX7_edit wsX7_edit) := goodIn_app (goodIn_of _ (by decide +kernel)) ggX7_setWeight_X7_edit
theorem dX7_setWeight_0 : decode cX7_setWeight 0 = .ok (.iload_n 1, 1) := by decide +kernel
theorem dX7_setWeight_1 : decode cX7_setWeight 1 = .ok (.invokestatic 42, 3) := by decide +kernel
theorem dX7_setWeight_4 : decode cX7_setWeight 4 = .ok (.ifCond .eq 13, 3) := by decide +kernel
theorem dX7_setWeight_7 : decode cX7_setWeight 7 = .ok (.iload_n 2, 1) := by decide +kernel
theorem dX7_setWeight_8 : decode cX7_setWeight 8 = .ok (.iconst 0, 1) := by decide +kernel
theorem dX7_setWeight_9 : decode cX7_setWeight 9 = .ok (.bipush 100, 2) := by decide +kernel
theorem dX7_setWeight_11 : decode cX7_setWeight 11 = .ok (.invokestatic 38, 3) := by decide +kernel
theorem dX7_setWeight_14 : decode cX7_setWeight 14 = .ok (.ifCond .ne 5, 3) := by decide +kernel
theorem dX7_setWeight_17 : decode cX7_setWeight 17 = .ok (.iconst (-1), 1) := by decide +kernel
theorem dX7_setWeight_18 : decode cX7_setWeight 18 = .ok (.ireturn, 1) := by decide +kernel
theorem dX7_setWeight_19 : decode cX7_setWeight 19 = .ok (.aload_n 0, 1) := by decide +kernel
theorem dX7_setWeight_20 : decode cX7_setWeight 20 = .ok (.invokevirtual 46, 3) := by decide +kernel
theorem dX7_setWeight_23 : decode cX7_setWeight 23 = .ok (.aload_n 0, 1) := by decide +kernel
theorem dX7_setWeight_24 : decode cX7_setWeight 24 = .ok (.getfield 7, 3) := by decide +kernel
theorem dX7_setWeight_27 : decode cX7_setWeight 27 = .ok (.iconst 0, 1) := by decide +kernel
theorem dX7_setWeight_28 : decode cX7_setWeight 28 = .ok (.iload_n 1, 1) := by decide +kernel
theorem dX7_setWeight_29 : decode cX7_setWeight 29 = .ok (.iadd, 1) := by decide +kernel
theorem dX7_setWeight_30 : decode cX7_setWeight 30 = .ok (.iaload, 1) := by decide +kernel
theorem dX7_setWeight_31 : decode cX7_setWeight 31 = .ok (.istore_n 3, 1) := by decide +kernel
theorem dX7_setWeight_32 : decode cX7_setWeight 32 = .ok (.aload_n 0, 1) := by decide +kernel
theorem dX7_setWeight_33 : decode cX7_setWeight 33 = .ok (.getfield 7, 3) := by decide +kernel
theorem dX7_setWeight_36 : decode cX7_setWeight 36 = .ok (.iconst 0, 1) := by decide +kernel
theorem dX7_setWeight_37 : decode cX7_setWeight 37 = .ok (.iload_n 1, 1) := by decide +kernel
theorem dX7_setWeight_38 : decode cX7_setWeight 38 = .ok (.iadd, 1) := by decide +kernel
theorem dX7_setWeight_39 : decode cX7_setWeight 39 = .ok (.iload_n 2, 1) := by decide +kernel
theorem dX7_setWeight_40 : decode cX7_setWeight 40 = .ok (.iastore, 1) := by decide +kernel
theorem dX7_setWeight_41 : decode cX7_setWeight 41 = .ok (.iload_n 3, 1) := by decide +kernel
theorem dX7_setWeight_42 : decode cX7_setWeight 42 = .ok (.ireturn, 1) := by decide +kernel
set_option maxRecDepth 20000 in
theorem ggX7_setFormula_X7_in : GoodIn wsX7_setFormula wsX7_in := goodIn_r _ [5] (by decide +kernel) (by decide +kernel)
set_option maxRecDepth 20000 in
theorem gX7_setFormula_X7_in : GoodIn wsX7_setFormula (va_wsS RX7 38 yX7_in wsX7_in) := goodIn_app (goodIn_of _ (by decide +kernel)) ggX7_setFormula_X7_in
set_option maxRecDepth 20000 in
theorem ggX7_setFormula_X7_edit : GoodIn wsX7_setFormula wsX7_edit := goodIn_r _ [9, 10, 11, 1, 12, 13, 14, 15, 16, 17, 18, 19, 20, 21, 22, 23, 24, 25, 26] (by decide +kernel) (by decide +kernel)
set_option maxRecDepth 20000 in
theorem gX7_setFormula_X7_edit : GoodIn wsX7_setFormula (wsV RX7 46 RX7 yX7_edit wsX7_edit) := goodIn_app (goodIn_of _ (by decide +kernel)) ggX7_setFormula_X7_edit
theorem dX7_setFormula_0 : decode cX7_setFormula 0 = .ok (.iload_n 1, 1) := by decide +kernel
theorem dX7_setFormula_1 : decode cX7_setFormula 1 = .ok (.iconst 0, 1) := by decide +kernel
theorem dX7_setFormula_2 : decode cX7_setFormula 2 = .ok (.iconst 2, 1) := by decide +kernel
theorem dX7_setFormula_3 : decode cX7_setFormula 3 = .ok (.invokestatic 38, 3) := by decide +kernel
theorem dX7_setFormula_6 : decode cX7_setFormula 6 = .ok (.ifCond .ne 5, 3) := by decide +kernel
theorem dX7_setFormula_9 : decode cX7_setFormula 9 = .ok (.iconst (-1), 1) := by decide +kernel
theorem dX7_setFormula_10 : decode cX7_setFormula 10 = .ok (.ireturn, 1) := by decide +kernel
theorem dX7_setFormula_11 : decode cX7_setFormula 11 = .ok (.aload_n 0, 1) := by decide +kernel
theorem dX7_setFormula_12 : decode cX7_setFormula 12 = .ok (.invokevirtual 46, 3) := by decide +kernel
theorem dX7_setFormula_15 : decode cX7_setFormula 15 = .ok (.aload_n 0, 1) := by decide +kernel
theorem dX7_setFormula_16 : decode cX7_setFormula 16 = .ok (.getfield 7, 3) := by decide +kernel
theorem dX7_setFormula_19 : decode cX7_setFormula 19 = .ok (.iconst 4, 1) := by decide +kernel
theorem dX7_setFormula_20 : decode cX7_setFormula 20 = .ok (.iaload, 1) := by decide +kernel
theorem dX7_setFormula_21 : decode cX7_setFormula 21 = .ok (.istore_n 2, 1) := by decide +kernel
theorem dX7_setFormula_22 : decode cX7_setFormula 22 = .ok (.aload_n 0, 1) := by decide +kernel
theorem dX7_setFormula_23 : decode cX7_setFormula 23 = .ok (.getfield 7, 3) := by decide +kernel
theorem dX7_setFormula_26 : decode cX7_setFormula 26 = .ok (.iconst 4, 1) := by decide +kernel
theorem dX7_setFormula_27 : decode cX7_setFormula 27 = .ok (.iload_n 1, 1) := by decide +kernel
theorem dX7_setFormula_28 : decode cX7_setFormula 28 = .ok (.iastore, 1) := by decide +kernel
theorem dX7_setFormula_29 : decode cX7_setFormula 29 = .ok (.iload_n 2, 1) := by decide +kernel
theorem dX7_setFormula_30 : decode cX7_setFormula 30 = .ok (.ireturn, 1) := by decide +kernel
set_option maxRecDepth 20000 in
theorem ggX7_isEffective_X7_oldOf : GoodIn wsX7_isEffective wsX7_oldOf := goodIn_r _ [6, 1, 11, 12, 13, 14, 15, 16, 17, 18, 19, 20, 21, 22, 23, 24, 25] (by decide +kernel) (by decide +kernel)
set_option maxRecDepth 20000 in
theorem gX7_isEffective_X7_oldOf : GoodIn wsX7_isEffective (wsV RX7 81 RX7 yX7_oldOf wsX7_oldOf) := goodIn_app (goodIn_of _ (by decide +kernel)) ggX7_isEffective_X7_oldOf
set_option maxRecDepth 20000 in
theorem ggX7_isEffective_X7_isObserved : GoodIn wsX7_isEffective wsX7_isObserved := goodIn_r _ [10, 1, 11, 12, 13, 14, 15, 16, 17, 18, 19, 20, 21, 22, 23, 24, 25] (by decide +kernel) (by decide +kernel)
set_option maxRecDepth 20000 in
theorem gX7_isEffective_X7_isObserved : GoodIn wsX7_isEffective (wsV RX7 87 RX7 yX7_isObserved wsX7_isObserved) := goodIn_app (goodIn_of _ (by decide +kernel)) ggX7_isEffective_X7_isObserved
theorem dX7_isEffective_0 : decode cX7_isEffective 0 = .ok (.aload_n 0, 1) := by decide +kernel
theorem dX7_isEffective_1 : decode cX7_isEffective 1 = .ok (.iload_n 1, 1) := by decide +kernel
theorem dX7_isEffective_2 : decode cX7_isEffective 2 = .ok (.invokevirtual 81, 3) := by decide +kernel
theorem dX7_isEffective_5 : decode cX7_isEffective 5 = .ok (.bipush (-9), 2) := by decide +kernel
theorem dX7_isEffective_7 : decode cX7_isEffective 7 = .ok (.if_icmp .eq 5, 3) := by decide +kernel
theorem dX7_isEffective_10 : decode cX7_isEffective 10 = .ok (.iconst 0, 1) := by decide +kernel
theorem dX7_isEffective_11 : decode cX7_isEffective 11 = .ok (.ireturn, 1) := by decide +kernel
theorem dX7_isEffective_12 : decode cX7_isEffective 12 = .ok (.aload_n 0, 1) := by decide +kernel
theorem dX7_isEffective_13 : decode cX7_isEffective 13 = .ok (.getfield 7, 3) := by decide +kernel
theorem dX7_isEffective_16 : decode cX7_isEffective 16 = .ok (.bipush 42, 2) := by decide +kernel
theorem dX7_isEffective_18 : decode cX7_isEffective 18 = .ok (.iload_n 1, 1) := by decide +kernel
theorem dX7_isEffective_19 : decode cX7_isEffective 19 = .ok (.iadd, 1) := by decide +kernel
theorem dX7_isEffective_20 : decode cX7_isEffective 20 = .ok (.iaload, 1) := by decide +kernel
theorem dX7_isEffective_21 : decode cX7_isEffective 21 = .ok (.istore_n 3, 1) := by decide +kernel
theorem dX7_isEffective_22 : decode cX7_isEffective 22 = .ok (.iload_n 3, 1) := by decide +kernel
theorem dX7_isEffective_23 : decode cX7_isEffective 23 = .ok (.bipush (-9), 2) := by decide +kernel
theorem dX7_isEffective_25 : decode cX7_isEffective 25 = .ok (.if_icmp .eq 16, 3) := by decide +kernel
theorem dX7_isEffective_28 : decode cX7_isEffective 28 = .ok (.iload_n 2, 1) := by decide +kernel
theorem dX7_isEffective_29 : decode cX7_isEffective 29 = .ok (.aload_n 0, 1) := by decide +kernel
theorem dX7_isEffective_30 : decode cX7_isEffective 30 = .ok (.getfield 7, 3) := by decide +kernel
theorem dX7_isEffective_33 : decode cX7_isEffective 33 = .ok (.bipush 54, 2) := by decide +kernel
theorem dX7_isEffective_35 : decode cX7_isEffective 35 = .ok (.iload_n 1, 1) := by decide +kernel
theorem dX7_isEffective_36 : decode cX7_isEffective 36 = .ok (.iadd, 1) := by decide +kernel
theorem dX7_isEffective_37 : decode cX7_isEffective 37 = .ok (.iaload, 1) := by decide +kernel
theorem dX7_isEffective_38 : decode cX7_isEffective 38 = .ok (.if_icmp .gt 10, 3) := by decide +kernel
theorem dX7_isEffective_41 : decode cX7_isEffective 41 = .ok (.aload_n 0, 1) := by decide +kernel
theorem dX7_isEffective_42 : decode cX7_isEffective 42 = .ok (.iload_n 1, 1) := by decide +kernel
theorem dX7_isEffective_43 : decode cX7_isEffective 43 = .ok (.iload_n 2, 1) := by decide +kernel
theorem dX7_isEffective_44 : decode cX7_isEffective 44 = .ok (.invokevirtual 87, 3) := by decide +kernel
theorem dX7_isEffective_47 : decode cX7_isEffective 47 = .ok (.ireturn, 1) := by decide +kernel
theorem dX7_isEffective_48 : decode cX7_isEffective 48 = .ok (.aload_n 0, 1) := by decide +kernel
theorem dX7_isEffective_49 : decode cX7_isEffective 49 = .ok (.iload_n 1, 1) := by decide +kernel
theorem dX7_isEffective_50 : decode cX7_isEffective 50 = .ok (.aload_n 0, 1) := by decide +kernel
theorem dX7_isEffective_51 : decode cX7_isEffective 51 = .ok (.getfield 7, 3) := by decide +kernel
theorem dX7_isEffective_54 : decode cX7_isEffective 54 = .ok (.bipush 54, 2) := by decide +kernel
theorem dX7_isEffective_56 : decode cX7_isEffective 56 = .ok (.iload_n 1, 1) := by decide +kernel
theorem dX7_isEffective_57 : decode cX7_isEffective 57 = .ok (.iadd, 1) := by decide +kernel
theorem dX7_isEffective_58 : decode cX7_isEffective 58 = .ok (.iaload, 1) := by decide +kernel
theorem dX7_isEffective_59 : decode cX7_isEffective 59 = .ok (.invokevirtual 87, 3) := by decide +kernel
theorem dX7_isEffective_62 : decode cX7_isEffective 62 = .ok (.ifCond .eq 33, 3) := by decide +kernel
theorem dX7_isEffective_65 : decode cX7_isEffective 65 = .ok (.aload_n 0, 1) := by decide +kernel
theorem dX7_isEffective_66 : decode cX7_isEffective 66 = .ok (.iload_n 3, 1) := by decide +kernel
theorem dX7_isEffective_67 : decode cX7_isEffective 67 = .ok (.aload_n 0, 1) := by decide +kernel
theorem dX7_isEffective_68 : decode cX7_isEffective 68 = .ok (.getfield 7, 3) := by decide +kernel
theorem dX7_isEffective_71 : decode cX7_isEffective 71 = .ok (.bipush 54, 2) := by decide +kernel
theorem dX7_isEffective_73 : decode cX7_isEffective 73 = .ok (.iload_n 1, 1) := by decide +kernel
theorem dX7_isEffective_74 : decode cX7_isEffective 74 = .ok (.iadd, 1) := by decide +kernel
theorem dX7_isEffective_75 : decode cX7_isEffective 75 = .ok (.iaload, 1) := by decide +kernel
theorem dX7_isEffective_76 : decode cX7_isEffective 76 = .ok (.invokevirtual 87, 3) := by decide +kernel
theorem dX7_isEffective_79 : decode cX7_isEffective 79 = .ok (.ifCond .eq 16, 3) := by decide +kernel
theorem dX7_isEffective_82 : decode cX7_isEffective 82 = .ok (.aload_n 0, 1) := by decide +kernel
theorem dX7_isEffective_83 : decode cX7_isEffective 83 = .ok (.iload_n 3, 1) := by decide +kernel
theorem dX7_isEffective_84 : decode cX7_isEffective 84 = .ok (.iload_n 2, 1) := by decide +kernel
theorem dX7_isEffective_85 : decode cX7_isEffective 85 = .ok (.invokevirtual 87, 3) := by decide +kernel
theorem dX7_isEffective_88 : decode cX7_isEffective 88 = .ok (.ifCond .eq 7, 3) := by decide +kernel
theorem dX7_isEffective_91 : decode cX7_isEffective 91 = .ok (.iconst 1, 1) := by decide +kernel
theorem dX7_isEffective_92 : decode cX7_isEffective 92 = .ok (.goto 4, 3) := by decide +kernel
theorem dX7_isEffective_95 : decode cX7_isEffective 95 = .ok (.iconst 0, 1) := by decide +kernel
theorem dX7_isEffective_96 : decode cX7_isEffective 96 = .ok (.ireturn, 1) := by decide +kernel
set_option maxRecDepth 20000 in
theorem ggX7_effective_X7_observed : GoodIn wsX7_effective wsX7_observed := goodIn_r _ [6, 1, 7, 8, 9, 10, 11, 12, 13, 14, 15, 16, 17, 18, 19, 20, 21] (by decide +kernel) (by decide +kernel)
set_option maxRecDepth 20000 in
theorem gX7_effective_X7_observed : GoodIn wsX7_effective (wsV RX7 94 RX7 yX7_observed wsX7_observed) := goodIn_app (goodIn_of _ (by decide +kernel)) ggX7_effective_X7_observed
theorem dX7_effective_0 : decode cX7_effective 0 = .ok (.aload_n 0, 1) := by decide +kernel
theorem dX7_effective_1 : decode cX7_effective 1 = .ok (.getfield 7, 3) := by decide +kernel
theorem dX7_effective_4 : decode cX7_effective 4 = .ok (.bipush 42, 2) := by decide +kernel
theorem dX7_effective_6 : decode cX7_effective 6 = .ok (.iload_n 1, 1) := by decide +kernel
theorem dX7_effective_7 : decode cX7_effective 7 = .ok (.iadd, 1) := by decide +kernel
theorem dX7_effective_8 : decode cX7_effective 8 = .ok (.iaload, 1) := by decide +kernel
theorem dX7_effective_9 : decode cX7_effective 9 = .ok (.istore_n 3, 1) := by decide +kernel
theorem dX7_effective_10 : decode cX7_effective 10 = .ok (.iload_n 3, 1) := by decide +kernel
theorem dX7_effective_11 : decode cX7_effective 11 = .ok (.bipush (-9), 2) := by decide +kernel
theorem dX7_effective_13 : decode cX7_effective 13 = .ok (.if_icmp .eq 16, 3) := by decide +kernel
theorem dX7_effective_16 : decode cX7_effective 16 = .ok (.iload_n 2, 1) := by decide +kernel
theorem dX7_effective_17 : decode cX7_effective 17 = .ok (.aload_n 0, 1) := by decide +kernel
theorem dX7_effective_18 : decode cX7_effective 18 = .ok (.getfield 7, 3) := by decide +kernel
theorem dX7_effective_21 : decode cX7_effective 21 = .ok (.bipush 54, 2) := by decide +kernel
theorem dX7_effective_23 : decode cX7_effective 23 = .ok (.iload_n 1, 1) := by decide +kernel
theorem dX7_effective_24 : decode cX7_effective 24 = .ok (.iadd, 1) := by decide +kernel
theorem dX7_effective_25 : decode cX7_effective 25 = .ok (.iaload, 1) := by decide +kernel
theorem dX7_effective_26 : decode cX7_effective 26 = .ok (.if_icmp .gt 10, 3) := by decide +kernel
theorem dX7_effective_29 : decode cX7_effective 29 = .ok (.aload_n 0, 1) := by decide +kernel
theorem dX7_effective_30 : decode cX7_effective 30 = .ok (.iload_n 1, 1) := by decide +kernel
theorem dX7_effective_31 : decode cX7_effective 31 = .ok (.iload_n 2, 1) := by decide +kernel
theorem dX7_effective_32 : decode cX7_effective 32 = .ok (.invokevirtual 94, 3) := by decide +kernel
theorem dX7_effective_35 : decode cX7_effective 35 = .ok (.freturn, 1) := by decide +kernel
theorem dX7_effective_36 : decode cX7_effective 36 = .ok (.aload_n 0, 1) := by decide +kernel
theorem dX7_effective_37 : decode cX7_effective 37 = .ok (.iload_n 1, 1) := by decide +kernel
theorem dX7_effective_38 : decode cX7_effective 38 = .ok (.aload_n 0, 1) := by decide +kernel
theorem dX7_effective_39 : decode cX7_effective 39 = .ok (.getfield 7, 3) := by decide +kernel
theorem dX7_effective_42 : decode cX7_effective 42 = .ok (.bipush 54, 2) := by decide +kernel
theorem dX7_effective_44 : decode cX7_effective 44 = .ok (.iload_n 1, 1) := by decide +kernel
theorem dX7_effective_45 : decode cX7_effective 45 = .ok (.iadd, 1) := by decide +kernel
theorem dX7_effective_46 : decode cX7_effective 46 = .ok (.iaload, 1) := by decide +kernel
theorem dX7_effective_47 : decode cX7_effective 47 = .ok (.invokevirtual 94, 3) := by decide +kernel
theorem dX7_effective_50 : decode cX7_effective 50 = .ok (.fstore 4, 2) := by decide +kernel
theorem dX7_effective_52 : decode cX7_effective 52 = .ok (.aload_n 0, 1) := by decide +kernel
theorem dX7_effective_53 : decode cX7_effective 53 = .ok (.iload_n 3, 1) := by decide +kernel
theorem dX7_effective_54 : decode cX7_effective 54 = .ok (.aload_n 0, 1) := by decide +kernel
theorem dX7_effective_55 : decode cX7_effective 55 = .ok (.getfield 7, 3) := by decide +kernel
theorem dX7_effective_58 : decode cX7_effective 58 = .ok (.bipush 54, 2) := by decide +kernel
theorem dX7_effective_60 : decode cX7_effective 60 = .ok (.iload_n 1, 1) := by decide +kernel
theorem dX7_effective_61 : decode cX7_effective 61 = .ok (.iadd, 1) := by decide +kernel
theorem dX7_effective_62 : decode cX7_effective 62 = .ok (.iaload, 1) := by decide +kernel
theorem dX7_effective_63 : decode cX7_effective 63 = .ok (.invokevirtual 94, 3) := by decide +kernel
theorem dX7_effective_66 : decode cX7_effective 66 = .ok (.fstore 5, 2) := by decide +kernel
theorem dX7_effective_68 : decode cX7_effective 68 = .ok (.aload_n 0, 1) := by decide +kernel
theorem dX7_effective_69 : decode cX7_effective 69 = .ok (.iload_n 3, 1) := by decide +kernel
theorem dX7_effective_70 : decode cX7_effective 70 = .ok (.iload_n 2, 1) := by decide +kernel
theorem dX7_effective_71 : decode cX7_effective 71 = .ok (.invokevirtual 94, 3) := by decide +kernel
theorem dX7_effective_74 : decode cX7_effective 74 = .ok (.fload 4, 2) := by decide +kernel
theorem dX7_effective_76 : decode cX7_effective 76 = .ok (.fload 5, 2) := by decide +kernel
theorem dX7_effective_78 : decode cX7_effective 78 = .ok (.fdiv, 1) := by decide +kernel
theorem dX7_effective_79 : decode cX7_effective 79 = .ok (.fmul, 1) := by decide +kernel
theorem dX7_effective_80 : decode cX7_effective 80 = .ok (.freturn, 1) := by decide +kernel
theorem dX7_begin_0 : decode cX7_begin 0 = .ok (.aload_n 0, 1) := by decide +kernel
theorem dX7_begin_1 : decode cX7_begin 1 = .ok (.fconst 0, 1) := by decide +kernel
theorem dX7_begin_2 : decode cX7_begin 2 = .ok (.putfield 98, 3) := by decide +kernel
theorem dX7_begin_5 : decode cX7_begin 5 = .ok (.aload_n 0, 1) := by decide +kernel
theorem dX7_begin_6 : decode cX7_begin 6 = .ok (.fconst 0, 1) := by decide +kernel
theorem dX7_begin_7 : decode cX7_begin 7 = .ok (.putfield 102, 3) := by decide +kernel
theorem dX7_begin_10 : decode cX7_begin 10 = .ok (.aload_n 0, 1) := by decide +kernel
theorem dX7_begin_11 : decode cX7_begin 11 = .ok (.iconst 0, 1) := by decide +kernel
theorem dX7_begin_12 : decode cX7_begin 12 = .ok (.putfield 105, 3) := by decide +kernel
theorem dX7_begin_15 : decode cX7_begin 15 = .ok (.return_, 1) := by decide +kernel
theorem dX7_take_0 : decode cX7_take 0 = .ok (.aload_n 0, 1) := by decide +kernel
theorem dX7_take_1 : decode cX7_take 1 = .ok (.dup, 1) := by decide +kernel
theorem dX7_take_2 : decode cX7_take 2 = .ok (.getfield 105, 3) := by decide +kernel
theorem dX7_take_5 : decode cX7_take 5 = .ok (.iconst 1, 1) := by decide +kernel
theorem dX7_take_6 : decode cX7_take 6 = .ok (.iadd, 1) := by decide +kernel
theorem dX7_take_7 : decode cX7_take 7 = .ok (.putfield 105, 3) := by decide +kernel
theorem dX7_take_10 : decode cX7_take 10 = .ok (.aload_n 0, 1) := by decide +kernel
theorem dX7_take_11 : decode cX7_take 11 = .ok (.getfield 7, 3) := by decide +kernel
theorem dX7_take_14 : decode cX7_take 14 = .ok (.iconst 4, 1) := by decide +kernel
theorem dX7_take_15 : decode cX7_take 15 = .ok (.iaload, 1) := by decide +kernel
theorem dX7_take_16 : decode cX7_take 16 = .ok (.lookupswitch 66 #[(0, 28), (1, 51)], 28) := by decide +kernel
theorem dX7_take_44 : decode cX7_take 44 = .ok (.aload_n 0, 1) := by decide +kernel
theorem dX7_take_45 : decode cX7_take 45 = .ok (.dup, 1) := by decide +kernel
theorem dX7_take_46 : decode cX7_take 46 = .ok (.getfield 98, 3) := by decide +kernel
theorem dX7_take_49 : decode cX7_take 49 = .ok (.fload_n 2, 1) := by decide +kernel
theorem dX7_take_50 : decode cX7_take 50 = .ok (.fadd, 1) := by decide +kernel
theorem dX7_take_51 : decode cX7_take 51 = .ok (.putfield 98, 3) := by decide +kernel
theorem dX7_take_54 : decode cX7_take 54 = .ok (.aload_n 0, 1) := by decide +kernel
theorem dX7_take_55 : decode cX7_take 55 = .ok (.dup, 1) := by decide +kernel
theorem dX7_take_56 : decode cX7_take 56 = .ok (.getfield 102, 3) := by decide +kernel
theorem dX7_take_59 : decode cX7_take 59 = .ok (.fload_n 1, 1) := by decide +kernel
theorem dX7_take_60 : decode cX7_take 60 = .ok (.fadd, 1) := by decide +kernel
theorem dX7_take_61 : decode cX7_take 61 = .ok (.putfield 102, 3) := by decide +kernel
theorem dX7_take_64 : decode cX7_take 64 = .ok (.goto 30, 3) := by decide +kernel
theorem dX7_take_67 : decode cX7_take 67 = .ok (.aload_n 0, 1) := by decide +kernel
theorem dX7_take_68 : decode cX7_take 68 = .ok (.dup, 1) := by decide +kernel
theorem dX7_take_69 : decode cX7_take 69 = .ok (.getfield 98, 3) := by decide +kernel
theorem dX7_take_72 : decode cX7_take 72 = .ok (.fload_n 2, 1) := by decide +kernel
theorem dX7_take_73 : decode cX7_take 73 = .ok (.fload_n 1, 1) := by decide +kernel
theorem dX7_take_74 : decode cX7_take 74 = .ok (.fdiv, 1) := by decide +kernel
theorem dX7_take_75 : decode cX7_take 75 = .ok (.fadd, 1) := by decide +kernel
theorem dX7_take_76 : decode cX7_take 76 = .ok (.putfield 98, 3) := by decide +kernel
theorem dX7_take_79 : decode cX7_take 79 = .ok (.goto 15, 3) := by decide +kernel
theorem dX7_take_82 : decode cX7_take 82 = .ok (.aload_n 0, 1) := by decide +kernel
theorem dX7_take_83 : decode cX7_take 83 = .ok (.dup, 1) := by decide +kernel
theorem dX7_take_84 : decode cX7_take 84 = .ok (.getfield 102, 3) := by decide +kernel
theorem dX7_take_87 : decode cX7_take 87 = .ok (.fload_n 1, 1) := by decide +kernel
theorem dX7_take_88 : decode cX7_take 88 = .ok (.fload_n 2, 1) := by decide +kernel
theorem dX7_take_89 : decode cX7_take 89 = .ok (.fdiv, 1) := by decide +kernel
theorem dX7_take_90 : decode cX7_take 90 = .ok (.fadd, 1) := by decide +kernel
theorem dX7_take_91 : decode cX7_take 91 = .ok (.putfield 102, 3) := by decide +kernel
theorem dX7_take_94 : decode cX7_take 94 = .ok (.return_, 1) := by decide +kernel
theorem dX7_result_0 : decode cX7_result 0 = .ok (.aload_n 0, 1) := by decide +kernel
theorem dX7_result_1 : decode cX7_result 1 = .ok (.getfield 7, 3) := by decide +kernel
theorem dX7_result_4 : decode cX7_result 4 = .ok (.iconst 4, 1) := by decide +kernel
theorem dX7_result_5 : decode cX7_result 5 = .ok (.iaload, 1) := by decide +kernel
theorem dX7_result_6 : decode cX7_result 6 = .ok (.ifCond .ne 15, 3) := by decide +kernel
theorem dX7_result_9 : decode cX7_result 9 = .ok (.aload_n 0, 1) := by decide +kernel
theorem dX7_result_10 : decode cX7_result 10 = .ok (.getfield 98, 3) := by decide +kernel
theorem dX7_result_13 : decode cX7_result 13 = .ok (.aload_n 0, 1) := by decide +kernel
theorem dX7_result_14 : decode cX7_result 14 = .ok (.getfield 102, 3) := by decide +kernel
theorem dX7_result_17 : decode cX7_result 17 = .ok (.fdiv, 1) := by decide +kernel
theorem dX7_result_18 : decode cX7_result 18 = .ok (.goto 36, 3) := by decide +kernel
theorem dX7_result_21 : decode cX7_result 21 = .ok (.aload_n 0, 1) := by decide +kernel
theorem dX7_result_22 : decode cX7_result 22 = .ok (.getfield 7, 3) := by decide +kernel
theorem dX7_result_25 : decode cX7_result 25 = .ok (.iconst 4, 1) := by decide +kernel
theorem dX7_result_26 : decode cX7_result 26 = .ok (.iaload, 1) := by decide +kernel
theorem dX7_result_27 : decode cX7_result 27 = .ok (.iconst 1, 1) := by decide +kernel
theorem dX7_result_28 : decode cX7_result 28 = .ok (.if_icmp .ne 16, 3) := by decide +kernel
theorem dX7_result_31 : decode cX7_result 31 = .ok (.aload_n 0, 1) := by decide +kernel
theorem dX7_result_32 : decode cX7_result 32 = .ok (.getfield 98, 3) := by decide +kernel
theorem dX7_result_35 : decode cX7_result 35 = .ok (.aload_n 0, 1) := by decide +kernel
theorem dX7_result_36 : decode cX7_result 36 = .ok (.getfield 105, 3) := by decide +kernel
theorem dX7_result_39 : decode cX7_result 39 = .ok (.i2f, 1) := by decide +kernel
theorem dX7_result_40 : decode cX7_result 40 = .ok (.fdiv, 1) := by decide +kernel
theorem dX7_result_41 : decode cX7_result 41 = .ok (.goto 13, 3) := by decide +kernel
theorem dX7_result_44 : decode cX7_result 44 = .ok (.aload_n 0, 1) := by decide +kernel
theorem dX7_result_45 : decode cX7_result 45 = .ok (.getfield 105, 3) := by decide +kernel
theorem dX7_result_48 : decode cX7_result 48 = .ok (.i2f, 1) := by decide +kernel
theorem dX7_result_49 : decode cX7_result 49 = .ok (.aload_n 0, 1) := by decide +kernel
theorem dX7_result_50 : decode cX7_result 50 = .ok (.getfield 102, 3) := by decide +kernel
theorem dX7_result_53 : decode cX7_result 53 = .ok (.fdiv, 1) := by decide +kernel
theorem dX7_result_54 : decode cX7_result 54 = .ok (.freturn, 1) := by decide +kernel
set_option maxRecDepth 20000 in
theorem ggX7_isMatched_X7_isEffective : GoodIn wsX7_isMatched wsX7_isEffective := goodIn_r _ [6, 1, 7, 8, 9, 5, 10, 11, 12, 13, 14, 15, 16, 17, 18, 19, 20, 21, 22, 23, 24, 25, 26, 27, 28, 29] (by decide +kernel) (by decide +kernel)
set_option maxRecDepth 20000 in
theorem gX7_isMatched_X7_isEffective : GoodIn wsX7_isMatched (wsV RX7 108 RX7 yX7_isEffective wsX7_isEffective) := goodIn_app (goodIn_of _ (by decide +kernel)) ggX7_isMatched_X7_isEffective
theorem dX7_isMatched_0 : decode cX7_isMatched 0 = .ok (.aload_n 0, 1) := by decide +kernel
theorem dX7_isMatched_1 : decode cX7_isMatched 1 = .ok (.getfield 7, 3) := by decide +kernel
theorem dX7_isMatched_4 : decode cX7_isMatched 4 = .ok (.bipush 6, 2) := by decide +kernel
theorem dX7_isMatched_6 : decode cX7_isMatched 6 = .ok (.iload_n 1, 1) := by decide +kernel
theorem dX7_isMatched_7 : decode cX7_isMatched 7 = .ok (.iadd, 1) := by decide +kernel
theorem dX7_isMatched_8 : decode cX7_isMatched 8 = .ok (.iaload, 1) := by decide +kernel
theorem dX7_isMatched_9 : decode cX7_isMatched 9 = .ok (.iload_n 2, 1) := by decide +kernel
theorem dX7_isMatched_10 : decode cX7_isMatched 10 = .ok (.if_icmp .ne 26, 3) := by decide +kernel
theorem dX7_isMatched_13 : decode cX7_isMatched 13 = .ok (.aload_n 0, 1) := by decide +kernel
theorem dX7_isMatched_14 : decode cX7_isMatched 14 = .ok (.iload_n 1, 1) := by decide +kernel
theorem dX7_isMatched_15 : decode cX7_isMatched 15 = .ok (.iload_n 3, 1) := by decide +kernel
theorem dX7_isMatched_16 : decode cX7_isMatched 16 = .ok (.invokevirtual 108, 3) := by decide +kernel
theorem dX7_isMatched_19 : decode cX7_isMatched 19 = .ok (.ifCond .eq 17, 3) := by decide +kernel
theorem dX7_isMatched_22 : decode cX7_isMatched 22 = .ok (.aload_n 0, 1) := by decide +kernel
theorem dX7_isMatched_23 : decode cX7_isMatched 23 = .ok (.iload_n 1, 1) := by decide +kernel
theorem dX7_isMatched_24 : decode cX7_isMatched 24 = .ok (.iload 4, 2) := by decide +kernel
theorem dX7_isMatched_26 : decode cX7_isMatched 26 = .ok (.invokevirtual 108, 3) := by decide +kernel
theorem dX7_isMatched_29 : decode cX7_isMatched 29 = .ok (.ifCond .eq 7, 3) := by decide +kernel
theorem dX7_isMatched_32 : decode cX7_isMatched 32 = .ok (.iconst 1, 1) := by decide +kernel
theorem dX7_isMatched_33 : decode cX7_isMatched 33 = .ok (.goto 4, 3) := by decide +kernel
theorem dX7_isMatched_36 : decode cX7_isMatched 36 = .ok (.iconst 0, 1) := by decide +kernel
theorem dX7_isMatched_37 : decode cX7_isMatched 37 = .ok (.ireturn, 1) := by decide +kernel
set_option maxRecDepth 20000 in
theorem ggX7_movement_X7_begin : GoodIn wsX7_movement wsX7_begin := goodIn_r _ [7, 8, 9, 2, 42, 43, 44, 45, 46, 47, 48, 49, 50, 51, 52, 53, 54, 55, 56] (by decide +kernel) (by decide +kernel)
set_option maxRecDepth 20000 in
theorem gX7_movement_X7_begin : GoodIn wsX7_movement (wsV RX7 111 RX7 yX7_begin wsX7_begin) := goodIn_app (goodIn_of _ (by decide +kernel)) ggX7_movement_X7_begin
set_option maxRecDepth 20000 in
theorem ggX7_movement_X7_isMatched : GoodIn wsX7_movement wsX7_isMatched := goodIn_r _ [13, 1, 14, 15, 16, 6, 17, 18, 19, 20, 21, 22, 23, 24, 25, 42, 43, 44, 45, 46, 47, 48, 49, 50, 51, 52, 53, 54, 55, 56] (by decide +kernel) (by decide +kernel)
set_option maxRecDepth 20000 in
theorem gX7_movement_X7_isMatched : GoodIn wsX7_movement (wsV RX7 114 RX7 yX7_isMatched wsX7_isMatched) := goodIn_app (goodIn_of _ (by decide +kernel)) ggX7_movement_X7_isMatched
set_option maxRecDepth 20000 in
theorem ggX7_movement_X7_effective : GoodIn wsX7_movement wsX7_effective := goodIn_r _ [29, 1, 30, 31, 32, 6, 33, 42, 43, 44, 45, 46, 47, 48, 49, 50, 51, 52, 53, 54, 55, 56] (by decide +kernel) (by decide +kernel)
set_option maxRecDepth 20000 in
theorem gX7_movement_X7_effective : GoodIn wsX7_movement (wsV RX7 118 RX7 yX7_effective wsX7_effective) := goodIn_app (goodIn_of _ (by decide +kernel)) ggX7_movement_X7_effective
set_option maxRecDepth 20000 in
theorem ggX7_movement_X7_take : GoodIn wsX7_movement wsX7_take := goodIn_r _ [37, 2, 1, 8, 9, 42, 43, 44, 45, 46, 47, 48, 49, 50, 51, 52, 53, 54, 55, 56] (by decide +kernel) (by decide +kernel)
set_option maxRecDepth 20000 in
theorem gX7_movement_X7_take : GoodIn wsX7_movement (wsV RX7 121 RX7 yX7_take wsX7_take) := goodIn_app (goodIn_of _ (by decide +kernel)) ggX7_movement_X7_take
set_option maxRecDepth 20000 in
theorem ggX7_movement_X7_result : GoodIn wsX7_movement wsX7_result := goodIn_r _ [41, 1, 8, 9, 2, 42, 43, 44, 45, 46, 47, 48, 49, 50, 51, 52, 53, 54, 55, 56] (by decide +kernel) (by decide +kernel)
set_option maxRecDepth 20000 in
theorem gX7_movement_X7_result : GoodIn wsX7_movement (wsV RX7 125 RX7 yX7_result wsX7_result) := goodIn_app (goodIn_of _ (by decide +kernel)) ggX7_movement_X7_result
theorem dX7_movement_0 : decode cX7_movement 0 = .ok (.aload_n 0, 1) := by decide +kernel
theorem dX7_movement_1 : decode cX7_movement 1 = .ok (.invokevirtual 111, 3) := by decide +kernel
theorem dX7_movement_4 : decode cX7_movement 4 = .ok (.iconst 0, 1) := by decide +kernel
theorem dX7_movement_5 : decode cX7_movement 5 = .ok (.istore 4, 2) := by decide +kernel
theorem dX7_movement_7 : decode cX7_movement 7 = .ok (.iload 4, 2) := by decide +kernel
theorem dX7_movement_9 : decode cX7_movement 9 = .ok (.aload_n 0, 1) := by decide +kernel
theorem dX7_movement_10 : decode cX7_movement 10 = .ok (.getfield 7, 3) := by decide +kernel
theorem dX7_movement_13 : decode cX7_movement 13 = .ok (.iconst 5, 1) := by decide +kernel
theorem dX7_movement_14 : decode cX7_movement 14 = .ok (.iaload, 1) := by decide +kernel
theorem dX7_movement_15 : decode cX7_movement 15 = .ok (.if_icmp .ge 39, 3) := by decide +kernel
theorem dX7_movement_18 : decode cX7_movement 18 = .ok (.aload_n 0, 1) := by decide +kernel
theorem dX7_movement_19 : decode cX7_movement 19 = .ok (.iload 4, 2) := by decide +kernel
theorem dX7_movement_21 : decode cX7_movement 21 = .ok (.iload_n 1, 1) := by decide +kernel
theorem dX7_movement_22 : decode cX7_movement 22 = .ok (.iload_n 2, 1) := by decide +kernel
theorem dX7_movement_23 : decode cX7_movement 23 = .ok (.iload_n 3, 1) := by decide +kernel
theorem dX7_movement_24 : decode cX7_movement 24 = .ok (.invokevirtual 114, 3) := by decide +kernel
theorem dX7_movement_27 : decode cX7_movement 27 = .ok (.ifCond .eq 21, 3) := by decide +kernel
theorem dX7_movement_30 : decode cX7_movement 30 = .ok (.aload_n 0, 1) := by decide +kernel
theorem dX7_movement_31 : decode cX7_movement 31 = .ok (.aload_n 0, 1) := by decide +kernel
theorem dX7_movement_32 : decode cX7_movement 32 = .ok (.iload 4, 2) := by decide +kernel
theorem dX7_movement_34 : decode cX7_movement 34 = .ok (.iload_n 2, 1) := by decide +kernel
theorem dX7_movement_35 : decode cX7_movement 35 = .ok (.invokevirtual 118, 3) := by decide +kernel
theorem dX7_movement_38 : decode cX7_movement 38 = .ok (.aload_n 0, 1) := by decide +kernel
theorem dX7_movement_39 : decode cX7_movement 39 = .ok (.iload 4, 2) := by decide +kernel
theorem dX7_movement_41 : decode cX7_movement 41 = .ok (.iload_n 3, 1) := by decide +kernel
theorem dX7_movement_42 : decode cX7_movement 42 = .ok (.invokevirtual 118, 3) := by decide +kernel
theorem dX7_movement_45 : decode cX7_movement 45 = .ok (.invokevirtual 121, 3) := by decide +kernel
theorem dX7_movement_48 : decode cX7_movement 48 = .ok (.iinc 4 1, 3) := by decide +kernel
theorem dX7_movement_51 : decode cX7_movement 51 = .ok (.goto (-44), 3) := by decide +kernel
theorem dX7_movement_54 : decode cX7_movement 54 = .ok (.aload_n 0, 1) := by decide +kernel
theorem dX7_movement_55 : decode cX7_movement 55 = .ok (.getfield 105, 3) := by decide +kernel
theorem dX7_movement_58 : decode cX7_movement 58 = .ok (.ifCond .ne 7, 3) := by decide +kernel
theorem dX7_movement_61 : decode cX7_movement 61 = .ok (.fconst 1, 1) := by decide +kernel
theorem dX7_movement_62 : decode cX7_movement 62 = .ok (.goto 7, 3) := by decide +kernel
theorem dX7_movement_65 : decode cX7_movement 65 = .ok (.aload_n 0, 1) := by decide +kernel
theorem dX7_movement_66 : decode cX7_movement 66 = .ok (.invokevirtual 125, 3) := by decide +kernel
theorem dX7_movement_69 : decode cX7_movement 69 = .ok (.freturn, 1) := by decide +kernel
set_option maxRecDepth 20000 in
theorem ggX7_find_X7_isEffective : GoodIn wsX7_find wsX7_isEffective := goodIn_r _ [9, 1, 10, 11, 12, 8, 13, 14, 15, 16, 17, 49, 50, 51, 52, 53, 54, 55, 56, 57, 58, 59, 60, 61, 62, 63] (by decide +kernel) (by decide +kernel)
set_option maxRecDepth 20000 in
theorem gX7_find_X7_isEffective : GoodIn wsX7_find (wsV RX7 108 RX7 yX7_isEffective wsX7_isEffective) := goodIn_app (goodIn_of _ (by decide +kernel)) ggX7_find_X7_isEffective
set_option maxRecDepth 20000 in
theorem ggX7_find_X7_effective : GoodIn wsX7_find wsX7_effective := goodIn_r _ [21, 1, 22, 23, 24, 8, 25, 49, 50, 51, 52, 53, 54, 55, 56, 57, 58, 59, 60, 61, 62, 63] (by decide +kernel) (by decide +kernel)
set_option maxRecDepth 20000 in
theorem gX7_find_X7_effective : GoodIn wsX7_find (wsV RX7 118 RX7 yX7_effective wsX7_effective) := goodIn_app (goodIn_of _ (by decide +kernel)) ggX7_find_X7_effective
set_option maxRecDepth 20000 in
theorem ggX7_find_X7_movement : GoodIn wsX7_find wsX7_movement := goodIn_r _ [29, 1, 30, 31, 32, 33, 8, 34, 35, 36, 37, 38, 39, 40, 5, 6, 7, 9, 10, 11, 12, 13, 14, 15, 16, 17, 18, 19, 20, 21, 22, 23, 24, 25, 41, 42, 43, 44, 45, 46, 47, 48, 49, 50, 51, 52, 53, 54, 55, 56, 57, 58, 59, 60, 61, 62, 63] (by decide +kernel) (by decide +kernel)
set_option maxRecDepth 20000 in
theorem gX7_find_X7_movement : GoodIn wsX7_find (wsV RX7 129 RX7 yX7_movement wsX7_movement) := goodIn_app (goodIn_of _ (by decide +kernel)) ggX7_find_X7_movement
theorem dX7_find_0 : decode cX7_find 0 = .ok (.iconst 0, 1) := by decide +kernel
theorem dX7_find_1 : decode cX7_find 1 = .ok (.istore_n 1, 1) := by decide +kernel
theorem dX7_find_2 : decode cX7_find 2 = .ok (.iload_n 1, 1) := by decide +kernel
theorem dX7_find_3 : decode cX7_find 3 = .ok (.bipush 24, 2) := by decide +kernel
theorem dX7_find_5 : decode cX7_find 5 = .ok (.if_icmp .ge 163, 3) := by decide +kernel
theorem dX7_find_8 : decode cX7_find 8 = .ok (.iconst 0, 1) := by decide +kernel
theorem dX7_find_9 : decode cX7_find 9 = .ok (.istore_n 2, 1) := by decide +kernel
theorem dX7_find_10 : decode cX7_find 10 = .ok (.iload_n 2, 1) := by decide +kernel
theorem dX7_find_11 : decode cX7_find 11 = .ok (.aload_n 0, 1) := by decide +kernel
theorem dX7_find_12 : decode cX7_find 12 = .ok (.getfield 7, 3) := by decide +kernel
theorem dX7_find_15 : decode cX7_find 15 = .ok (.iconst 5, 1) := by decide +kernel
theorem dX7_find_16 : decode cX7_find 16 = .ok (.iaload, 1) := by decide +kernel
theorem dX7_find_17 : decode cX7_find 17 = .ok (.if_icmp .ge 145, 3) := by decide +kernel
theorem dX7_find_20 : decode cX7_find 20 = .ok (.bipush 24, 2) := by decide +kernel
theorem dX7_find_22 : decode cX7_find 22 = .ok (.iload_n 2, 1) := by decide +kernel
theorem dX7_find_23 : decode cX7_find 23 = .ok (.imul, 1) := by decide +kernel
theorem dX7_find_24 : decode cX7_find 24 = .ok (.iload_n 1, 1) := by decide +kernel
theorem dX7_find_25 : decode cX7_find 25 = .ok (.iadd, 1) := by decide +kernel
