theorem dX0_init_0 : decode cX0_init 0 = .ok (.aload_n 0, 1) := by decide +kernel
theorem dX0_init_1 : decode cX0_init 1 = .ok (.invokespecial 3, 3) := by decide +kernel
theorem dX0_init_4 : decode cX0_init 4 = .ok (.aload_n 0, 1) := by decide +kernel
theorem dX0_init_5 : decode cX0_init 5 = .ok (.iconst 4, 1) := by decide +kernel
theorem dX0_init_6 : decode cX0_init 6 = .ok (.newarray .int, 2) := by decide +kernel
theorem dX0_init_8 : decode cX0_init 8 = .ok (.putfield 9, 3) := by decide +kernel
theorem dX0_init_11 : decode cX0_init 11 = .ok (.aload_n 0, 1) := by decide +kernel
theorem dX0_init_12 : decode cX0_init 12 = .ok (.bipush 12, 2) := by decide +kernel
theorem dX0_init_14 : decode cX0_init 14 = .ok (.newarray .int, 2) := by decide +kernel
theorem dX0_init_16 : decode cX0_init 16 = .ok (.putfield 15, 3) := by decide +kernel
theorem dX0_init_19 : decode cX0_init 19 = .ok (.aload_n 0, 1) := by decide +kernel
theorem dX0_init_20 : decode cX0_init 20 = .ok (.bipush 12, 2) := by decide +kernel
theorem dX0_init_22 : decode cX0_init 22 = .ok (.newarray .int, 2) := by decide +kernel
theorem dX0_init_24 : decode cX0_init 24 = .ok (.putfield 18, 3) := by decide +kernel
theorem dX0_init_27 : decode cX0_init 27 = .ok (.aload_n 0, 1) := by decide +kernel
theorem dX0_init_28 : decode cX0_init 28 = .ok (.bipush 12, 2) := by decide +kernel
theorem dX0_init_30 : decode cX0_init 30 = .ok (.newarray .int, 2) := by decide +kernel
theorem dX0_init_32 : decode cX0_init 32 = .ok (.putfield 21, 3) := by decide +kernel
theorem dX0_init_35 : decode cX0_init 35 = .ok (.aload_n 0, 1) := by decide +kernel
theorem dX0_init_36 : decode cX0_init 36 = .ok (.bipush 12, 2) := by decide +kernel
theorem dX0_init_38 : decode cX0_init 38 = .ok (.newarray .int, 2) := by decide +kernel
theorem dX0_init_40 : decode cX0_init 40 = .ok (.putfield 24, 3) := by decide +kernel
theorem dX0_init_43 : decode cX0_init 43 = .ok (.aload_n 0, 1) := by decide +kernel
theorem dX0_init_44 : decode cX0_init 44 = .ok (.bipush 12, 2) := by decide +kernel
theorem dX0_init_46 : decode cX0_init 46 = .ok (.newarray .int, 2) := by decide +kernel
theorem dX0_init_48 : decode cX0_init 48 = .ok (.putfield 27, 3) := by decide +kernel
theorem dX0_init_51 : decode cX0_init 51 = .ok (.aload_n 0, 1) := by decide +kernel
theorem dX0_init_52 : decode cX0_init 52 = .ok (.bipush 12, 2) := by decide +kernel
theorem dX0_init_54 : decode cX0_init 54 = .ok (.newarray .int, 2) := by decide +kernel
theorem dX0_init_56 : decode cX0_init 56 = .ok (.putfield 30, 3) := by decide +kernel
theorem dX0_init_59 : decode cX0_init 59 = .ok (.aload_n 0, 1) := by decide +kernel
theorem dX0_init_60 : decode cX0_init 60 = .ok (.sipush 288, 3) := by decide +kernel
theorem dX0_init_63 : decode cX0_init 63 = .ok (.newarray .int, 2) := by decide +kernel
theorem dX0_init_65 : decode cX0_init 65 = .ok (.putfield 33, 3) := by decide +kernel
theorem dX0_init_68 : decode cX0_init 68 = .ok (.iconst 0, 1) := by decide +kernel
theorem dX0_init_69 : decode cX0_init 69 = .ok (.istore_n 1, 1) := by decide +kernel
theorem dX0_init_70 : decode cX0_init 70 = .ok (.iload_n 1, 1) := by decide +kernel
theorem dX0_init_71 : decode cX0_init 71 = .ok (.iconst 4, 1) := by decide +kernel
theorem dX0_init_72 : decode cX0_init 72 = .ok (.if_icmp .ge 17, 3) := by decide +kernel
theorem dX0_init_75 : decode cX0_init 75 = .ok (.aload_n 0, 1) := by decide +kernel
theorem dX0_init_76 : decode cX0_init 76 = .ok (.getfield 9, 3) := by decide +kernel
theorem dX0_init_79 : decode cX0_init 79 = .ok (.iload_n 1, 1) := by decide +kernel
theorem dX0_init_80 : decode cX0_init 80 = .ok (.bipush 25, 2) := by decide +kernel
theorem dX0_init_82 : decode cX0_init 82 = .ok (.iastore, 1) := by decide +kernel
theorem dX0_init_83 : decode cX0_init 83 = .ok (.iinc 1 1, 3) := by decide +kernel
theorem dX0_init_86 : decode cX0_init 86 = .ok (.goto (-16), 3) := by decide +kernel
theorem dX0_init_89 : decode cX0_init 89 = .ok (.iconst 0, 1) := by decide +kernel
theorem dX0_init_90 : decode cX0_init 90 = .ok (.istore_n 1, 1) := by decide +kernel
theorem dX0_init_91 : decode cX0_init 91 = .ok (.iload_n 1, 1) := by decide +kernel
theorem dX0_init_92 : decode cX0_init 92 = .ok (.bipush 12, 2) := by decide +kernel
theorem dX0_init_94 : decode cX0_init 94 = .ok (.if_icmp .ge 23, 3) := by decide +kernel
theorem dX0_init_97 : decode cX0_init 97 = .ok (.aload_n 0, 1) := by decide +kernel
theorem dX0_init_98 : decode cX0_init 98 = .ok (.getfield 24, 3) := by decide +kernel
theorem dX0_init_101 : decode cX0_init 101 = .ok (.iload_n 1, 1) := by decide +kernel
theorem dX0_init_102 : decode cX0_init 102 = .ok (.iconst (-1), 1) := by decide +kernel
theorem dX0_init_103 : decode cX0_init 103 = .ok (.iastore, 1) := by decide +kernel
theorem dX0_init_104 : decode cX0_init 104 = .ok (.aload_n 0, 1) := by decide +kernel
theorem dX0_init_105 : decode cX0_init 105 = .ok (.getfield 27, 3) := by decide +kernel
theorem dX0_init_108 : decode cX0_init 108 = .ok (.iload_n 1, 1) := by decide +kernel
theorem dX0_init_109 : decode cX0_init 109 = .ok (.iconst (-1), 1) := by decide +kernel
theorem dX0_init_110 : decode cX0_init 110 = .ok (.iastore, 1) := by decide +kernel
theorem dX0_init_111 : decode cX0_init 111 = .ok (.iinc 1 1, 3) := by decide +kernel
theorem dX0_init_114 : decode cX0_init 114 = .ok (.goto (-23), 3) := by decide +kernel
theorem dX0_init_117 : decode cX0_init 117 = .ok (.return_, 1) := by decide +kernel
theorem dX0_copyFrom_0 : decode cX0_copyFrom 0 = .ok (.aload_n 0, 1) := by decide +kernel
theorem dX0_copyFrom_1 : decode cX0_copyFrom 1 = .ok (.aload_n 1, 1) := by decide +kernel
theorem dX0_copyFrom_2 : decode cX0_copyFrom 2 = .ok (.getfield 36, 3) := by decide +kernel
theorem dX0_copyFrom_5 : decode cX0_copyFrom 5 = .ok (.putfield 36, 3) := by decide +kernel
theorem dX0_copyFrom_8 : decode cX0_copyFrom 8 = .ok (.aload_n 0, 1) := by decide +kernel
theorem dX0_copyFrom_9 : decode cX0_copyFrom 9 = .ok (.aload_n 1, 1) := by decide +kernel
theorem dX0_copyFrom_10 : decode cX0_copyFrom 10 = .ok (.getfield 40, 3) := by decide +kernel
theorem dX0_copyFrom_13 : decode cX0_copyFrom 13 = .ok (.putfield 40, 3) := by decide +kernel
theorem dX0_copyFrom_16 : decode cX0_copyFrom 16 = .ok (.aload_n 1, 1) := by decide +kernel
theorem dX0_copyFrom_17 : decode cX0_copyFrom 17 = .ok (.getfield 9, 3) := by decide +kernel
theorem dX0_copyFrom_20 : decode cX0_copyFrom 20 = .ok (.iconst 0, 1) := by decide +kernel
theorem dX0_copyFrom_21 : decode cX0_copyFrom 21 = .ok (.aload_n 0, 1) := by decide +kernel
theorem dX0_copyFrom_22 : decode cX0_copyFrom 22 = .ok (.getfield 9, 3) := by decide +kernel
theorem dX0_copyFrom_25 : decode cX0_copyFrom 25 = .ok (.iconst 0, 1) := by decide +kernel
theorem dX0_copyFrom_26 : decode cX0_copyFrom 26 = .ok (.iconst 4, 1) := by decide +kernel
theorem dX0_copyFrom_27 : decode cX0_copyFrom 27 = .ok (.invokestatic 43, 3) := by decide +kernel
theorem dX0_copyFrom_30 : decode cX0_copyFrom 30 = .ok (.aload_n 1, 1) := by decide +kernel
theorem dX0_copyFrom_31 : decode cX0_copyFrom 31 = .ok (.getfield 15, 3) := by decide +kernel
theorem dX0_copyFrom_34 : decode cX0_copyFrom 34 = .ok (.iconst 0, 1) := by decide +kernel
theorem dX0_copyFrom_35 : decode cX0_copyFrom 35 = .ok (.aload_n 0, 1) := by decide +kernel
theorem dX0_copyFrom_36 : decode cX0_copyFrom 36 = .ok (.getfield 15, 3) := by decide +kernel
theorem dX0_copyFrom_39 : decode cX0_copyFrom 39 = .ok (.iconst 0, 1) := by decide +kernel
theorem dX0_copyFrom_40 : decode cX0_copyFrom 40 = .ok (.bipush 12, 2) := by decide +kernel
theorem dX0_copyFrom_42 : decode cX0_copyFrom 42 = .ok (.invokestatic 43, 3) := by decide +kernel
theorem dX0_copyFrom_45 : decode cX0_copyFrom 45 = .ok (.aload_n 1, 1) := by decide +kernel
theorem dX0_copyFrom_46 : decode cX0_copyFrom 46 = .ok (.getfield 18, 3) := by decide +kernel
theorem dX0_copyFrom_49 : decode cX0_copyFrom 49 = .ok (.iconst 0, 1) := by decide +kernel
theorem dX0_copyFrom_50 : decode cX0_copyFrom 50 = .ok (.aload_n 0, 1) := by decide +kernel
theorem dX0_copyFrom_51 : decode cX0_copyFrom 51 = .ok (.getfield 18, 3) := by decide +kernel
theorem dX0_copyFrom_54 : decode cX0_copyFrom 54 = .ok (.iconst 0, 1) := by decide +kernel
theorem dX0_copyFrom_55 : decode cX0_copyFrom 55 = .ok (.bipush 12, 2) := by decide +kernel
theorem dX0_copyFrom_57 : decode cX0_copyFrom 57 = .ok (.invokestatic 43, 3) := by decide +kernel
theorem dX0_copyFrom_60 : decode cX0_copyFrom 60 = .ok (.aload_n 1, 1) := by decide +kernel
theorem dX0_copyFrom_61 : decode cX0_copyFrom 61 = .ok (.getfield 21, 3) := by decide +kernel
theorem dX0_copyFrom_64 : decode cX0_copyFrom 64 = .ok (.iconst 0, 1) := by decide +kernel
theorem dX0_copyFrom_65 : decode cX0_copyFrom 65 = .ok (.aload_n 0, 1) := by decide +kernel
theorem dX0_copyFrom_66 : decode cX0_copyFrom 66 = .ok (.getfield 21, 3) := by decide +kernel
theorem dX0_copyFrom_69 : decode cX0_copyFrom 69 = .ok (.iconst 0, 1) := by decide +kernel
theorem dX0_copyFrom_70 : decode cX0_copyFrom 70 = .ok (.bipush 12, 2) := by decide +kernel
theorem dX0_copyFrom_72 : decode cX0_copyFrom 72 = .ok (.invokestatic 43, 3) := by decide +kernel
theorem dX0_copyFrom_75 : decode cX0_copyFrom 75 = .ok (.aload_n 1, 1) := by decide +kernel
theorem dX0_copyFrom_76 : decode cX0_copyFrom 76 = .ok (.getfield 24, 3) := by decide +kernel
theorem dX0_copyFrom_79 : decode cX0_copyFrom 79 = .ok (.iconst 0, 1) := by decide +kernel
theorem dX0_copyFrom_80 : decode cX0_copyFrom 80 = .ok (.aload_n 0, 1) := by decide +kernel
theorem dX0_copyFrom_81 : decode cX0_copyFrom 81 = .ok (.getfield 24, 3) := by decide +kernel
theorem dX0_copyFrom_84 : decode cX0_copyFrom 84 = .ok (.iconst 0, 1) := by decide +kernel
theorem dX0_copyFrom_85 : decode cX0_copyFrom 85 = .ok (.bipush 12, 2) := by decide +kernel
theorem dX0_copyFrom_87 : decode cX0_copyFrom 87 = .ok (.invokestatic 43, 3) := by decide +kernel
theorem dX0_copyFrom_90 : decode cX0_copyFrom 90 = .ok (.aload_n 1, 1) := by decide +kernel
theorem dX0_copyFrom_91 : decode cX0_copyFrom 91 = .ok (.getfield 27, 3) := by decide +kernel
theorem dX0_copyFrom_94 : decode cX0_copyFrom 94 = .ok (.iconst 0, 1) := by decide +kernel
theorem dX0_copyFrom_95 : decode cX0_copyFrom 95 = .ok (.aload_n 0, 1) := by decide +kernel
theorem dX0_copyFrom_96 : decode cX0_copyFrom 96 = .ok (.getfield 27, 3) := by decide +kernel
theorem dX0_copyFrom_99 : decode cX0_copyFrom 99 = .ok (.iconst 0, 1) := by decide +kernel
theorem dX0_copyFrom_100 : decode cX0_copyFrom 100 = .ok (.bipush 12, 2) := by decide +kernel
theorem dX0_copyFrom_102 : decode cX0_copyFrom 102 = .ok (.invokestatic 43, 3) := by decide +kernel
theorem dX0_copyFrom_105 : decode cX0_copyFrom 105 = .ok (.aload_n 1, 1) := by decide +kernel
theorem dX0_copyFrom_106 : decode cX0_copyFrom 106 = .ok (.getfield 30, 3) := by decide +kernel
theorem dX0_copyFrom_109 : decode cX0_copyFrom 109 = .ok (.iconst 0, 1) := by decide +kernel
theorem dX0_copyFrom_110 : decode cX0_copyFrom 110 = .ok (.aload_n 0, 1) := by decide +kernel
theorem dX0_copyFrom_111 : decode cX0_copyFrom 111 = .ok (.getfield 30, 3) := by decide +kernel
theorem dX0_copyFrom_114 : decode cX0_copyFrom 114 = .ok (.iconst 0, 1) := by decide +kernel
theorem dX0_copyFrom_115 : decode cX0_copyFrom 115 = .ok (.bipush 12, 2) := by decide +kernel
theorem dX0_copyFrom_117 : decode cX0_copyFrom 117 = .ok (.invokestatic 43, 3) := by decide +kernel
theorem dX0_copyFrom_120 : decode cX0_copyFrom 120 = .ok (.aload_n 1, 1) := by decide +kernel
theorem dX0_copyFrom_121 : decode cX0_copyFrom 121 = .ok (.getfield 33, 3) := by decide +kernel
theorem dX0_copyFrom_124 : decode cX0_copyFrom 124 = .ok (.iconst 0, 1) := by decide +kernel
theorem dX0_copyFrom_125 : decode cX0_copyFrom 125 = .ok (.aload_n 0, 1) := by decide +kernel
theorem dX0_copyFrom_126 : decode cX0_copyFrom 126 = .ok (.getfield 33, 3) := by decide +kernel
theorem dX0_copyFrom_129 : decode cX0_copyFrom 129 = .ok (.iconst 0, 1) := by decide +kernel
theorem dX0_copyFrom_130 : decode cX0_copyFrom 130 = .ok (.sipush 288, 3) := by decide +kernel
theorem dX0_copyFrom_133 : decode cX0_copyFrom 133 = .ok (.invokestatic 43, 3) := by decide +kernel
theorem dX0_copyFrom_136 : decode cX0_copyFrom 136 = .ok (.return_, 1) := by decide +kernel
theorem dX0_append_0 : decode cX0_append 0 = .ok (.aload_n 0, 1) := by decide +kernel
theorem dX0_append_1 : decode cX0_append 1 = .ok (.getfield 36, 3) := by decide +kernel
theorem dX0_append_4 : decode cX0_append 4 = .ok (.istore 4, 2) := by decide +kernel
theorem dX0_append_6 : decode cX0_append 6 = .ok (.aload_n 0, 1) := by decide +kernel
theorem dX0_append_7 : decode cX0_append 7 = .ok (.getfield 15, 3) := by decide +kernel
theorem dX0_append_10 : decode cX0_append 10 = .ok (.iload 4, 2) := by decide +kernel
theorem dX0_append_12 : decode cX0_append 12 = .ok (.iload_n 1, 1) := by decide +kernel
theorem dX0_append_13 : decode cX0_append 13 = .ok (.iastore, 1) := by decide +kernel
theorem dX0_append_14 : decode cX0_append 14 = .ok (.aload_n 0, 1) := by decide +kernel
theorem dX0_append_15 : decode cX0_append 15 = .ok (.getfield 18, 3) := by decide +kernel
theorem dX0_append_18 : decode cX0_append 18 = .ok (.iload 4, 2) := by decide +kernel
theorem dX0_append_20 : decode cX0_append 20 = .ok (.iload_n 2, 1) := by decide +kernel
theorem dX0_append_21 : decode cX0_append 21 = .ok (.iastore, 1) := by decide +kernel
theorem dX0_append_22 : decode cX0_append 22 = .ok (.aload_n 0, 1) := by decide +kernel
theorem dX0_append_23 : decode cX0_append 23 = .ok (.getfield 21, 3) := by decide +kernel
theorem dX0_append_26 : decode cX0_append 26 = .ok (.iload 4, 2) := by decide +kernel
theorem dX0_append_28 : decode cX0_append 28 = .ok (.iload_n 3, 1) := by decide +kernel
theorem dX0_append_29 : decode cX0_append 29 = .ok (.iastore, 1) := by decide +kernel
theorem dX0_append_30 : decode cX0_append 30 = .ok (.aload_n 0, 1) := by decide +kernel
theorem dX0_append_31 : decode cX0_append 31 = .ok (.iload 4, 2) := by decide +kernel
theorem dX0_append_33 : decode cX0_append 33 = .ok (.iconst 1, 1) := by decide +kernel
theorem dX0_append_34 : decode cX0_append 34 = .ok (.iadd, 1) := by decide +kernel
theorem dX0_append_35 : decode cX0_append 35 = .ok (.putfield 36, 3) := by decide +kernel
theorem dX0_append_38 : decode cX0_append 38 = .ok (.iload 4, 2) := by decide +kernel
theorem dX0_append_40 : decode cX0_append 40 = .ok (.ireturn, 1) := by decide +kernel
theorem dX0_isLinked_0 : decode cX0_isLinked 0 = .ok (.aload_n 0, 1) := by decide +kernel
theorem dX0_isLinked_1 : decode cX0_isLinked 1 = .ok (.getfield 24, 3) := by decide +kernel
theorem dX0_isLinked_4 : decode cX0_isLinked 4 = .ok (.iload_n 1, 1) := by decide +kernel
theorem dX0_isLinked_5 : decode cX0_isLinked 5 = .ok (.iaload, 1) := by decide +kernel
theorem dX0_isLinked_6 : decode cX0_isLinked 6 = .ok (.iconst (-1), 1) := by decide +kernel
theorem dX0_isLinked_7 : decode cX0_isLinked 7 = .ok (.if_icmp .ne 13, 3) := by decide +kernel
theorem dX0_isLinked_10 : decode cX0_isLinked 10 = .ok (.aload_n 0, 1) := by decide +kernel
theorem dX0_isLinked_11 : decode cX0_isLinked 11 = .ok (.getfield 27, 3) := by decide +kernel
theorem dX0_isLinked_14 : decode cX0_isLinked 14 = .ok (.iload_n 1, 1) := by decide +kernel
theorem dX0_isLinked_15 : decode cX0_isLinked 15 = .ok (.iaload, 1) := by decide +kernel
theorem dX0_isLinked_16 : decode cX0_isLinked 16 = .ok (.iconst (-1), 1) := by decide +kernel
theorem dX0_isLinked_17 : decode cX0_isLinked 17 = .ok (.if_icmp .eq 7, 3) := by decide +kernel
theorem dX0_isLinked_20 : decode cX0_isLinked 20 = .ok (.iconst 1, 1) := by decide +kernel
theorem dX0_isLinked_21 : decode cX0_isLinked 21 = .ok (.goto 4, 3) := by decide +kernel
theorem dX0_isLinked_24 : decode cX0_isLinked 24 = .ok (.iconst 0, 1) := by decide +kernel
theorem dX0_isLinked_25 : decode cX0_isLinked 25 = .ok (.ireturn, 1) := by decide +kernel
set_option maxRecDepth 20000 in
theorem ggX0_canLink_X0_isLinked : GoodIn wsX0_canLink wsX0_isLinked := goodIn_r _ [6, 7, 8, 18, 19, 20, 21, 22, 23, 24, 25, 26, 27] (by decide +kernel) (by decide +kernel)
set_option maxRecDepth 20000 in
theorem gX0_canLink_X0_isLinked : GoodIn wsX0_canLink (wsV RX0 49 RX0 yX0_isLinked wsX0_isLinked) := goodIn_app (goodIn_of _ (by decide +kernel)) ggX0_canLink_X0_isLinked
set_option maxRecDepth 20000 in
theorem ggX0_canLink_X0_hasObserved : GoodIn wsX0_canLink wsX0_hasObserved := goodIn_r _ [12, 13, 14, 15, 16, 17, 18, 19, 20, 21, 22, 23, 24, 25, 26, 27] (by decide +kernel) (by decide +kernel)
set_option maxRecDepth 20000 in
theorem gX0_canLink_X0_hasObserved : GoodIn wsX0_canLink (wsV RX0 53 RX0 yX0_hasObserved wsX0_hasObserved) := goodIn_app (goodIn_of _ (by decide +kernel)) ggX0_canLink_X0_hasObserved
theorem dX0_canLink_0 : decode cX0_canLink 0 = .ok (.aload_n 0, 1) := by decide +kernel
theorem dX0_canLink_1 : decode cX0_canLink 1 = .ok (.getfield 15, 3) := by decide +kernel
theorem dX0_canLink_4 : decode cX0_canLink 4 = .ok (.iload_n 1, 1) := by decide +kernel
theorem dX0_canLink_5 : decode cX0_canLink 5 = .ok (.iaload, 1) := by decide +kernel
theorem dX0_canLink_6 : decode cX0_canLink 6 = .ok (.aload_n 0, 1) := by decide +kernel
theorem dX0_canLink_7 : decode cX0_canLink 7 = .ok (.getfield 15, 3) := by decide +kernel
theorem dX0_canLink_10 : decode cX0_canLink 10 = .ok (.iload_n 2, 1) := by decide +kernel
theorem dX0_canLink_11 : decode cX0_canLink 11 = .ok (.iaload, 1) := by decide +kernel
theorem dX0_canLink_12 : decode cX0_canLink 12 = .ok (.if_icmp .ne 41, 3) := by decide +kernel
theorem dX0_canLink_15 : decode cX0_canLink 15 = .ok (.aload_n 0, 1) := by decide +kernel
theorem dX0_canLink_16 : decode cX0_canLink 16 = .ok (.iload_n 1, 1) := by decide +kernel
theorem dX0_canLink_17 : decode cX0_canLink 17 = .ok (.invokevirtual 49, 3) := by decide +kernel
theorem dX0_canLink_20 : decode cX0_canLink 20 = .ok (.ifCond .ne 33, 3) := by decide +kernel
theorem dX0_canLink_23 : decode cX0_canLink 23 = .ok (.aload_n 0, 1) := by decide +kernel
theorem dX0_canLink_24 : decode cX0_canLink 24 = .ok (.iload_n 2, 1) := by decide +kernel
theorem dX0_canLink_25 : decode cX0_canLink 25 = .ok (.invokevirtual 49, 3) := by decide +kernel
theorem dX0_canLink_28 : decode cX0_canLink 28 = .ok (.ifCond .ne 25, 3) := by decide +kernel
theorem dX0_canLink_31 : decode cX0_canLink 31 = .ok (.aload_n 0, 1) := by decide +kernel
theorem dX0_canLink_32 : decode cX0_canLink 32 = .ok (.iload_n 1, 1) := by decide +kernel
theorem dX0_canLink_33 : decode cX0_canLink 33 = .ok (.iload_n 3, 1) := by decide +kernel
theorem dX0_canLink_34 : decode cX0_canLink 34 = .ok (.invokevirtual 53, 3) := by decide +kernel
theorem dX0_canLink_37 : decode cX0_canLink 37 = .ok (.ifCond .eq 16, 3) := by decide +kernel
theorem dX0_canLink_40 : decode cX0_canLink 40 = .ok (.aload_n 0, 1) := by decide +kernel
theorem dX0_canLink_41 : decode cX0_canLink 41 = .ok (.iload_n 2, 1) := by decide +kernel
theorem dX0_canLink_42 : decode cX0_canLink 42 = .ok (.iload_n 3, 1) := by decide +kernel
theorem dX0_canLink_43 : decode cX0_canLink 43 = .ok (.invokevirtual 53, 3) := by decide +kernel
theorem dX0_canLink_46 : decode cX0_canLink 46 = .ok (.ifCond .eq 7, 3) := by decide +kernel
theorem dX0_canLink_49 : decode cX0_canLink 49 = .ok (.iconst 1, 1) := by decide +kernel
theorem dX0_canLink_50 : decode cX0_canLink 50 = .ok (.goto 4, 3) := by decide +kernel
theorem dX0_canLink_53 : decode cX0_canLink 53 = .ok (.iconst 0, 1) := by decide +kernel
theorem dX0_canLink_54 : decode cX0_canLink 54 = .ok (.ireturn, 1) := by decide +kernel
theorem dX0_link_0 : decode cX0_link 0 = .ok (.aload_n 0, 1) := by decide +kernel
theorem dX0_link_1 : decode cX0_link 1 = .ok (.getfield 24, 3) := by decide +kernel
theorem dX0_link_4 : decode cX0_link 4 = .ok (.iload_n 1, 1) := by decide +kernel
theorem dX0_link_5 : decode cX0_link 5 = .ok (.iload_n 2, 1) := by decide +kernel
theorem dX0_link_6 : decode cX0_link 6 = .ok (.iastore, 1) := by decide +kernel
theorem dX0_link_7 : decode cX0_link 7 = .ok (.aload_n 0, 1) := by decide +kernel
theorem dX0_link_8 : decode cX0_link 8 = .ok (.getfield 27, 3) := by decide +kernel
theorem dX0_link_11 : decode cX0_link 11 = .ok (.iload_n 2, 1) := by decide +kernel
theorem dX0_link_12 : decode cX0_link 12 = .ok (.iload_n 1, 1) := by decide +kernel
theorem dX0_link_13 : decode cX0_link 13 = .ok (.iastore, 1) := by decide +kernel
theorem dX0_link_14 : decode cX0_link 14 = .ok (.aload_n 0, 1) := by decide +kernel
theorem dX0_link_15 : decode cX0_link 15 = .ok (.getfield 30, 3) := by decide +kernel
theorem dX0_link_18 : decode cX0_link 18 = .ok (.iload_n 1, 1) := by decide +kernel
theorem dX0_link_19 : decode cX0_link 19 = .ok (.iload_n 3, 1) := by decide +kernel
theorem dX0_link_20 : decode cX0_link 20 = .ok (.iastore, 1) := by decide +kernel
theorem dX0_link_21 : decode cX0_link 21 = .ok (.return_, 1) := by decide +kernel
theorem dX0_unlink_0 : decode cX0_unlink 0 = .ok (.aload_n 0, 1) := by decide +kernel
theorem dX0_unlink_1 : decode cX0_unlink 1 = .ok (.getfield 27, 3) := by decide +kernel
theorem dX0_unlink_4 : decode cX0_unlink 4 = .ok (.iload_n 1, 1) := by decide +kernel
theorem dX0_unlink_5 : decode cX0_unlink 5 = .ok (.iaload, 1) := by decide +kernel
theorem dX0_unlink_6 : decode cX0_unlink 6 = .ok (.iconst (-1), 1) := by decide +kernel
theorem dX0_unlink_7 : decode cX0_unlink 7 = .ok (.if_icmp .ne 7, 3) := by decide +kernel
theorem dX0_unlink_10 : decode cX0_unlink 10 = .ok (.iload_n 1, 1) := by decide +kernel
theorem dX0_unlink_11 : decode cX0_unlink 11 = .ok (.goto 9, 3) := by decide +kernel
theorem dX0_unlink_14 : decode cX0_unlink 14 = .ok (.aload_n 0, 1) := by decide +kernel
theorem dX0_unlink_15 : decode cX0_unlink 15 = .ok (.getfield 27, 3) := by decide +kernel
theorem dX0_unlink_18 : decode cX0_unlink 18 = .ok (.iload_n 1, 1) := by decide +kernel
theorem dX0_unlink_19 : decode cX0_unlink 19 = .ok (.iaload, 1) := by decide +kernel
theorem dX0_unlink_20 : decode cX0_unlink 20 = .ok (.istore_n 2, 1) := by decide +kernel
theorem dX0_unlink_21 : decode cX0_unlink 21 = .ok (.aload_n 0, 1) := by decide +kernel
theorem dX0_unlink_22 : decode cX0_unlink 22 = .ok (.getfield 24, 3) := by decide +kernel
theorem dX0_unlink_25 : decode cX0_unlink 25 = .ok (.iload_n 2, 1) := by decide +kernel
theorem dX0_unlink_26 : decode cX0_unlink 26 = .ok (.iaload, 1) := by decide +kernel
theorem dX0_unlink_27 : decode cX0_unlink 27 = .ok (.istore_n 3, 1) := by decide +kernel
theorem dX0_unlink_28 : decode cX0_unlink 28 = .ok (.aload_n 0, 1) := by decide +kernel
theorem dX0_unlink_29 : decode cX0_unlink 29 = .ok (.getfield 24, 3) := by decide +kernel
theorem dX0_unlink_32 : decode cX0_unlink 32 = .ok (.iload_n 2, 1) := by decide +kernel
theorem dX0_unlink_33 : decode cX0_unlink 33 = .ok (.iconst (-1), 1) := by decide +kernel
theorem dX0_unlink_34 : decode cX0_unlink 34 = .ok (.iastore, 1) := by decide +kernel
theorem dX0_unlink_35 : decode cX0_unlink 35 = .ok (.iload_n 3, 1) := by decide +kernel
theorem dX0_unlink_36 : decode cX0_unlink 36 = .ok (.iconst (-1), 1) := by decide +kernel
theorem dX0_unlink_37 : decode cX0_unlink 37 = .ok (.if_icmp .eq 10, 3) := by decide +kernel
theorem dX0_unlink_40 : decode cX0_unlink 40 = .ok (.aload_n 0, 1) := by decide +kernel
theorem dX0_unlink_41 : decode cX0_unlink 41 = .ok (.getfield 27, 3) := by decide +kernel
theorem dX0_unlink_44 : decode cX0_unlink 44 = .ok (.iload_n 3, 1) := by decide +kernel
theorem dX0_unlink_45 : decode cX0_unlink 45 = .ok (.iconst (-1), 1) := by decide +kernel
theorem dX0_unlink_46 : decode cX0_unlink 46 = .ok (.iastore, 1) := by decide +kernel
theorem dX0_unlink_47 : decode cX0_unlink 47 = .ok (.return_, 1) := by decide +kernel
theorem dX0_linkCount_0 : decode cX0_linkCount 0 = .ok (.iconst 0, 1) := by decide +kernel
theorem dX0_linkCount_1 : decode cX0_linkCount 1 = .ok (.istore_n 1, 1) := by decide +kernel
theorem dX0_linkCount_2 : decode cX0_linkCount 2 = .ok (.iconst 0, 1) := by decide +kernel
theorem dX0_linkCount_3 : decode cX0_linkCount 3 = .ok (.istore_n 2, 1) := by decide +kernel
theorem dX0_linkCount_4 : decode cX0_linkCount 4 = .ok (.iload_n 2, 1) := by decide +kernel
theorem dX0_linkCount_5 : decode cX0_linkCount 5 = .ok (.aload_n 0, 1) := by decide +kernel
theorem dX0_linkCount_6 : decode cX0_linkCount 6 = .ok (.getfield 36, 3) := by decide +kernel
theorem dX0_linkCount_9 : decode cX0_linkCount 9 = .ok (.if_icmp .ge 22, 3) := by decide +kernel
theorem dX0_linkCount_12 : decode cX0_linkCount 12 = .ok (.aload_n 0, 1) := by decide +kernel
theorem dX0_linkCount_13 : decode cX0_linkCount 13 = .ok (.getfield 24, 3) := by decide +kernel
theorem dX0_linkCount_16 : decode cX0_linkCount 16 = .ok (.iload_n 2, 1) := by decide +kernel
theorem dX0_linkCount_17 : decode cX0_linkCount 17 = .ok (.iaload, 1) := by decide +kernel
theorem dX0_linkCount_18 : decode cX0_linkCount 18 = .ok (.iconst (-1), 1) := by decide +kernel
theorem dX0_linkCount_19 : decode cX0_linkCount 19 = .ok (.if_icmp .eq 6, 3) := by decide +kernel
theorem dX0_linkCount_22 : decode cX0_linkCount 22 = .ok (.iinc 1 1, 3) := by decide +kernel
theorem dX0_linkCount_25 : decode cX0_linkCount 25 = .ok (.iinc 2 1, 3) := by decide +kernel
theorem dX0_linkCount_28 : decode cX0_linkCount 28 = .ok (.goto (-24), 3) := by decide +kernel
theorem dX0_linkCount_31 : decode cX0_linkCount 31 = .ok (.iload_n 1, 1) := by decide +kernel
theorem dX0_linkCount_32 : decode cX0_linkCount 32 = .ok (.ireturn, 1) := by decide +kernel
set_option maxRecDepth 20000 in
theorem ggX0_hasObserved_X6_cell : GoodIn wsX0_hasObserved wsX6_cell := goodIn_r _ [5] (by decide +kernel) (by decide +kernel)
set_option maxRecDepth 20000 in
theorem gX0_hasObserved_X6_cell_n57 : GoodIn wsX0_hasObserved (wsX6_cell) := ggX0_hasObserved_X6_cell
theorem dX0_hasObserved_0 : decode cX0_hasObserved 0 = .ok (.aload_n 0, 1) := by decide +kernel
theorem dX0_hasObserved_1 : decode cX0_hasObserved 1 = .ok (.getfield 21, 3) := by decide +kernel
theorem dX0_hasObserved_4 : decode cX0_hasObserved 4 = .ok (.iload_n 1, 1) := by decide +kernel
theorem dX0_hasObserved_5 : decode cX0_hasObserved 5 = .ok (.iaload, 1) := by decide +kernel
theorem dX0_hasObserved_6 : decode cX0_hasObserved 6 = .ok (.iload_n 2, 1) := by decide +kernel
theorem dX0_hasObserved_7 : decode cX0_hasObserved 7 = .ok (.bipush 12, 2) := by decide +kernel
theorem dX0_hasObserved_9 : decode cX0_hasObserved 9 = .ok (.irem, 1) := by decide +kernel
theorem dX0_hasObserved_10 : decode cX0_hasObserved 10 = .ok (.ishr, 1) := by decide +kernel
theorem dX0_hasObserved_11 : decode cX0_hasObserved 11 = .ok (.iconst 1, 1) := by decide +kernel
theorem dX0_hasObserved_12 : decode cX0_hasObserved 12 = .ok (.iand, 1) := by decide +kernel
theorem dX0_hasObserved_13 : decode cX0_hasObserved 13 = .ok (.iconst 1, 1) := by decide +kernel
theorem dX0_hasObserved_14 : decode cX0_hasObserved 14 = .ok (.if_icmp .ne 7, 3) := by decide +kernel
theorem dX0_hasObserved_17 : decode cX0_hasObserved 17 = .ok (.iconst 1, 1) := by decide +kernel
theorem dX0_hasObserved_18 : decode cX0_hasObserved 18 = .ok (.goto 4, 3) := by decide +kernel
theorem dX0_hasObserved_21 : decode cX0_hasObserved 21 = .ok (.iconst 0, 1) := by decide +kernel
theorem dX0_hasObserved_22 : decode cX0_hasObserved 22 = .ok (.istore_n 3, 1) := by decide +kernel
theorem dX0_hasObserved_23 : decode cX0_hasObserved 23 = .ok (.iload_n 3, 1) := by decide +kernel
theorem dX0_hasObserved_24 : decode cX0_hasObserved 24 = .ok (.ifCond .eq 20, 3) := by decide +kernel
theorem dX0_hasObserved_27 : decode cX0_hasObserved 27 = .ok (.aload_n 0, 1) := by decide +kernel
theorem dX0_hasObserved_28 : decode cX0_hasObserved 28 = .ok (.getfield 33, 3) := by decide +kernel
theorem dX0_hasObserved_31 : decode cX0_hasObserved 31 = .ok (.iload_n 1, 1) := by decide +kernel
theorem dX0_hasObserved_32 : decode cX0_hasObserved 32 = .ok (.iload_n 2, 1) := by decide +kernel
theorem dX0_hasObserved_33 : decode cX0_hasObserved 33 = .ok (.invokestatic 57, 3) := by decide +kernel
theorem dX0_hasObserved_36 : decode cX0_hasObserved 36 = .ok (.iaload, 1) := by decide +kernel
theorem dX0_hasObserved_37 : decode cX0_hasObserved 37 = .ok (.ifCond .le 7, 3) := by decide +kernel
theorem dX0_hasObserved_40 : decode cX0_hasObserved 40 = .ok (.iconst 1, 1) := by decide +kernel
theorem dX0_hasObserved_41 : decode cX0_hasObserved 41 = .ok (.goto 4, 3) := by decide +kernel
theorem dX0_hasObserved_44 : decode cX0_hasObserved 44 = .ok (.iconst 0, 1) := by decide +kernel
theorem dX0_hasObserved_45 : decode cX0_hasObserved 45 = .ok (.ireturn, 1) := by decide +kernel
set_option maxRecDepth 20000 in
theorem ggX0_observed_X6_cell : GoodIn wsX0_observed wsX6_cell := goodIn_r _ [5] (by decide +kernel) (by decide +kernel)
set_option maxRecDepth 20000 in
theorem gX0_observed_X6_cell_n57 : GoodIn wsX0_observed (wsX6_cell) := ggX0_observed_X6_cell
set_option maxRecDepth 20000 in
theorem ggX0_observed_X5_over : GoodIn wsX0_observed wsX5_over := goodIn_r _ [9, 10, 11, 8, 12, 13, 14, 15, 16, 17, 18, 19, 20] (by decide +kernel) (by decide +kernel)
set_option maxRecDepth 20000 in
theorem gX0_observed_X5_over : GoodIn wsX0_observed (va_wsS RX0 61 yX5_over wsX5_over) := goodIn_app (goodIn_of _ (by decide +kernel)) ggX0_observed_X5_over
theorem dX0_observed_0 : decode cX0_observed 0 = .ok (.aload_n 0, 1) := by decide +kernel
theorem dX0_observed_1 : decode cX0_observed 1 = .ok (.getfield 33, 3) := by decide +kernel
theorem dX0_observed_4 : decode cX0_observed 4 = .ok (.iload_n 1, 1) := by decide +kernel
theorem dX0_observed_5 : decode cX0_observed 5 = .ok (.iload_n 2, 1) := by decide +kernel
theorem dX0_observed_6 : decode cX0_observed 6 = .ok (.invokestatic 57, 3) := by decide +kernel
theorem dX0_observed_9 : decode cX0_observed 9 = .ok (.iaload, 1) := by decide +kernel
theorem dX0_observed_10 : decode cX0_observed 10 = .ok (.i2f, 1) := by decide +kernel
theorem dX0_observed_11 : decode cX0_observed 11 = .ok (.aload_n 0, 1) := by decide +kernel
theorem dX0_observed_12 : decode cX0_observed 12 = .ok (.getfield 18, 3) := by decide +kernel
theorem dX0_observed_15 : decode cX0_observed 15 = .ok (.iload_n 1, 1) := by decide +kernel
theorem dX0_observed_16 : decode cX0_observed 16 = .ok (.iaload, 1) := by decide +kernel
theorem dX0_observed_17 : decode cX0_observed 17 = .ok (.i2f, 1) := by decide +kernel
theorem dX0_observed_18 : decode cX0_observed 18 = .ok (.invokestatic 61, 3) := by decide +kernel
theorem dX0_observed_21 : decode cX0_observed 21 = .ok (.freturn, 1) := by decide +kernel
theorem dX0_isPricedByNewItem_0 : decode cX0_isPricedByNewItem 0 = .ok (.aload_n 0, 1) := by decide +kernel
theorem dX0_isPricedByNewItem_1 : decode cX0_isPricedByNewItem 1 = .ok (.getfield 24, 3) := by decide +kernel
theorem dX0_isPricedByNewItem_4 : decode cX0_isPricedByNewItem 4 = .ok (.iload_n 1, 1) := by decide +kernel
theorem dX0_isPricedByNewItem_5 : decode cX0_isPricedByNewItem 5 = .ok (.iaload, 1) := by decide +kernel
theorem dX0_isPricedByNewItem_6 : decode cX0_isPricedByNewItem 6 = .ok (.iconst (-1), 1) := by decide +kernel
theorem dX0_isPricedByNewItem_7 : decode cX0_isPricedByNewItem 7 = .ok (.if_icmp .eq 17, 3) := by decide +kernel
theorem dX0_isPricedByNewItem_10 : decode cX0_isPricedByNewItem 10 = .ok (.iload_n 2, 1) := by decide +kernel
theorem dX0_isPricedByNewItem_11 : decode cX0_isPricedByNewItem 11 = .ok (.aload_n 0, 1) := by decide +kernel
theorem dX0_isPricedByNewItem_12 : decode cX0_isPricedByNewItem 12 = .ok (.getfield 30, 3) := by decide +kernel
theorem dX0_isPricedByNewItem_15 : decode cX0_isPricedByNewItem 15 = .ok (.iload_n 1, 1) := by decide +kernel
theorem dX0_isPricedByNewItem_16 : decode cX0_isPricedByNewItem 16 = .ok (.iaload, 1) := by decide +kernel
theorem dX0_isPricedByNewItem_17 : decode cX0_isPricedByNewItem 17 = .ok (.if_icmp .le 7, 3) := by decide +kernel
theorem dX0_isPricedByNewItem_20 : decode cX0_isPricedByNewItem 20 = .ok (.iconst 1, 1) := by decide +kernel
theorem dX0_isPricedByNewItem_21 : decode cX0_isPricedByNewItem 21 = .ok (.goto 4, 3) := by decide +kernel
theorem dX0_isPricedByNewItem_24 : decode cX0_isPricedByNewItem 24 = .ok (.iconst 0, 1) := by decide +kernel
theorem dX0_isPricedByNewItem_25 : decode cX0_isPricedByNewItem 25 = .ok (.ireturn, 1) := by decide +kernel
set_option maxRecDepth 20000 in
theorem ggX0_hasEffective_X0_isPricedByNewItem : GoodIn wsX0_hasEffective wsX0_isPricedByNewItem := goodIn_r _ [8, 2, 3, 18, 19, 20, 21, 22, 23, 24, 25, 26, 27] (by decide +kernel) (by decide +kernel)
set_option maxRecDepth 20000 in
theorem gX0_hasEffective_X0_isPricedByNewItem : GoodIn wsX0_hasEffective (wsV RX0 67 RX0 yX0_isPricedByNewItem wsX0_isPricedByNewItem) := goodIn_app (goodIn_of _ (by decide +kernel)) ggX0_hasEffective_X0_isPricedByNewItem
set_option maxRecDepth 20000 in
theorem ggX0_hasEffective_X0_hasObserved : GoodIn wsX0_hasEffective wsX0_hasObserved := goodIn_r _ [12, 13, 14, 15, 16, 17, 18, 19, 20, 21, 22, 23, 24, 25, 26, 27] (by decide +kernel) (by decide +kernel)
set_option maxRecDepth 20000 in
theorem gX0_hasEffective_X0_hasObserved : GoodIn wsX0_hasEffective (wsV RX0 53 RX0 yX0_hasObserved wsX0_hasObserved) := goodIn_app (goodIn_of _ (by decide +kernel)) ggX0_hasEffective_X0_hasObserved
theorem dX0_hasEffective_0 : decode cX0_hasEffective 0 = .ok (.aload_n 0, 1) := by decide +kernel
theorem dX0_hasEffective_1 : decode cX0_hasEffective 1 = .ok (.getfield 27, 3) := by decide +kernel
theorem dX0_hasEffective_4 : decode cX0_hasEffective 4 = .ok (.iload_n 1, 1) := by decide +kernel
theorem dX0_hasEffective_5 : decode cX0_hasEffective 5 = .ok (.iaload, 1) := by decide +kernel
theorem dX0_hasEffective_6 : decode cX0_hasEffective 6 = .ok (.iconst (-1), 1) := by decide +kernel
theorem dX0_hasEffective_7 : decode cX0_hasEffective 7 = .ok (.if_icmp .eq 5, 3) := by decide +kernel
theorem dX0_hasEffective_10 : decode cX0_hasEffective 10 = .ok (.iconst 0, 1) := by decide +kernel
theorem dX0_hasEffective_11 : decode cX0_hasEffective 11 = .ok (.ireturn, 1) := by decide +kernel
theorem dX0_hasEffective_12 : decode cX0_hasEffective 12 = .ok (.aload_n 0, 1) := by decide +kernel
theorem dX0_hasEffective_13 : decode cX0_hasEffective 13 = .ok (.iload_n 1, 1) := by decide +kernel
theorem dX0_hasEffective_14 : decode cX0_hasEffective 14 = .ok (.iload_n 2, 1) := by decide +kernel
theorem dX0_hasEffective_15 : decode cX0_hasEffective 15 = .ok (.invokevirtual 67, 3) := by decide +kernel
theorem dX0_hasEffective_18 : decode cX0_hasEffective 18 = .ok (.ifCond .ne 10, 3) := by decide +kernel
theorem dX0_hasEffective_21 : decode cX0_hasEffective 21 = .ok (.aload_n 0, 1) := by decide +kernel
theorem dX0_hasEffective_22 : decode cX0_hasEffective 22 = .ok (.iload_n 1, 1) := by decide +kernel
theorem dX0_hasEffective_23 : decode cX0_hasEffective 23 = .ok (.iload_n 2, 1) := by decide +kernel
theorem dX0_hasEffective_24 : decode cX0_hasEffective 24 = .ok (.invokevirtual 53, 3) := by decide +kernel
theorem dX0_hasEffective_27 : decode cX0_hasEffective 27 = .ok (.ireturn, 1) := by decide +kernel
theorem dX0_hasEffective_28 : decode cX0_hasEffective 28 = .ok (.aload_n 0, 1) := by decide +kernel
theorem dX0_hasEffective_29 : decode cX0_hasEffective 29 = .ok (.getfield 24, 3) := by decide +kernel
theorem dX0_hasEffective_32 : decode cX0_hasEffective 32 = .ok (.iload_n 1, 1) := by decide +kernel
theorem dX0_hasEffective_33 : decode cX0_hasEffective 33 = .ok (.iaload, 1) := by decide +kernel
theorem dX0_hasEffective_34 : decode cX0_hasEffective 34 = .ok (.istore_n 3, 1) := by decide +kernel
theorem dX0_hasEffective_35 : decode cX0_hasEffective 35 = .ok (.aload_n 0, 1) := by decide +kernel
theorem dX0_hasEffective_36 : decode cX0_hasEffective 36 = .ok (.iload_n 1, 1) := by decide +kernel
theorem dX0_hasEffective_37 : decode cX0_hasEffective 37 = .ok (.aload_n 0, 1) := by decide +kernel
theorem dX0_hasEffective_38 : decode cX0_hasEffective 38 = .ok (.getfield 30, 3) := by decide +kernel
theorem dX0_hasEffective_41 : decode cX0_hasEffective 41 = .ok (.iload_n 1, 1) := by decide +kernel
theorem dX0_hasEffective_42 : decode cX0_hasEffective 42 = .ok (.iaload, 1) := by decide +kernel
theorem dX0_hasEffective_43 : decode cX0_hasEffective 43 = .ok (.invokevirtual 53, 3) := by decide +kernel
theorem dX0_hasEffective_46 : decode cX0_hasEffective 46 = .ok (.ifCond .eq 30, 3) := by decide +kernel
theorem dX0_hasEffective_49 : decode cX0_hasEffective 49 = .ok (.aload_n 0, 1) := by decide +kernel
theorem dX0_hasEffective_50 : decode cX0_hasEffective 50 = .ok (.iload_n 3, 1) := by decide +kernel
theorem dX0_hasEffective_51 : decode cX0_hasEffective 51 = .ok (.aload_n 0, 1) := by decide +kernel
theorem dX0_hasEffective_52 : decode cX0_hasEffective 52 = .ok (.getfield 30, 3) := by decide +kernel
theorem dX0_hasEffective_55 : decode cX0_hasEffective 55 = .ok (.iload_n 1, 1) := by decide +kernel
theorem dX0_hasEffective_56 : decode cX0_hasEffective 56 = .ok (.iaload, 1) := by decide +kernel
theorem dX0_hasEffective_57 : decode cX0_hasEffective 57 = .ok (.invokevirtual 53, 3) := by decide +kernel
theorem dX0_hasEffective_60 : decode cX0_hasEffective 60 = .ok (.ifCond .eq 16, 3) := by decide +kernel
theorem dX0_hasEffective_63 : decode cX0_hasEffective 63 = .ok (.aload_n 0, 1) := by decide +kernel
theorem dX0_hasEffective_64 : decode cX0_hasEffective 64 = .ok (.iload_n 3, 1) := by decide +kernel
theorem dX0_hasEffective_65 : decode cX0_hasEffective 65 = .ok (.iload_n 2, 1) := by decide +kernel
theorem dX0_hasEffective_66 : decode cX0_hasEffective 66 = .ok (.invokevirtual 53, 3) := by decide +kernel
theorem dX0_hasEffective_69 : decode cX0_hasEffective 69 = .ok (.ifCond .eq 7, 3) := by decide +kernel
theorem dX0_hasEffective_72 : decode cX0_hasEffective 72 = .ok (.iconst 1, 1) := by decide +kernel
theorem dX0_hasEffective_73 : decode cX0_hasEffective 73 = .ok (.goto 4, 3) := by decide +kernel
theorem dX0_hasEffective_76 : decode cX0_hasEffective 76 = .ok (.iconst 0, 1) := by decide +kernel
theorem dX0_hasEffective_77 : decode cX0_hasEffective 77 = .ok (.ireturn, 1) := by decide +kernel
set_option maxRecDepth 20000 in
theorem ggX0_effective_X0_isPricedByNewItem : GoodIn wsX0_effective wsX0_isPricedByNewItem := goodIn_r _ [7, 1, 2, 35, 36, 37, 38, 39, 40, 41, 42, 43, 44] (by decide +kernel) (by decide +kernel)
set_option maxRecDepth 20000 in
theorem gX0_effective_X0_isPricedByNewItem : GoodIn wsX0_effective (wsV RX0 67 RX0 yX0_isPricedByNewItem wsX0_isPricedByNewItem) := goodIn_app (goodIn_of _ (by decide +kernel)) ggX0_effective_X0_isPricedByNewItem
set_option maxRecDepth 20000 in
theorem ggX0_effective_X0_observed : GoodIn wsX0_effective wsX0_observed := goodIn_r _ [11, 12, 13, 14, 15, 16, 17, 18, 19, 20, 21, 22, 23, 24, 25, 26, 27, 28, 29, 30, 31, 35, 36, 37, 38, 39, 40, 41, 42, 43, 44] (by decide +kernel) (by decide +kernel)
set_option maxRecDepth 20000 in
theorem gX0_effective_X0_observed : GoodIn wsX0_effective (wsV RX0 70 RX0 yX0_observed wsX0_observed) := goodIn_app (goodIn_of _ (by decide +kernel)) ggX0_effective_X0_observed
set_option maxRecDepth 20000 in
theorem ggX0_effective_X5_over : GoodIn wsX0_effective wsX5_over := goodIn_r _ [20, 21, 22, 19, 23, 24, 25, 26, 27, 28, 29, 30, 31] (by decide +kernel) (by decide +kernel)
set_option maxRecDepth 20000 in
theorem gX0_effective_X5_over : GoodIn wsX0_effective (va_wsS RX0 61 yX5_over wsX5_over) := goodIn_app (goodIn_of _ (by decide +kernel)) ggX0_effective_X5_over
set_option maxRecDepth 20000 in
theorem ggX0_effective_X5_times : GoodIn wsX0_effective wsX5_times := goodIn_r _ [34, 21, 22, 19, 23, 24, 25, 26, 27, 28, 29, 30, 31] (by decide +kernel) (by decide +kernel)
set_option maxRecDepth 20000 in
theorem gX0_effective_X5_times : GoodIn wsX0_effective (va_wsS RX0 74 yX5_times wsX5_times) := goodIn_app (goodIn_of _ (by decide +kernel)) ggX0_effective_X5_times
theorem dX0_effective_0 : decode cX0_effective 0 = .ok (.aload_n 0, 1) := by decide +kernel
theorem dX0_effective_1 : decode cX0_effective 1 = .ok (.iload_n 1, 1) := by decide +kernel
theorem dX0_effective_2 : decode cX0_effective 2 = .ok (.iload_n 2, 1) := by decide +kernel
theorem dX0_effective_3 : decode cX0_effective 3 = .ok (.invokevirtual 67, 3) := by decide +kernel
theorem dX0_effective_6 : decode cX0_effective 6 = .ok (.ifCond .ne 10, 3) := by decide +kernel
theorem dX0_effective_9 : decode cX0_effective 9 = .ok (.aload_n 0, 1) := by decide +kernel
theorem dX0_effective_10 : decode cX0_effective 10 = .ok (.iload_n 1, 1) := by decide +kernel
theorem dX0_effective_11 : decode cX0_effective 11 = .ok (.iload_n 2, 1) := by decide +kernel
theorem dX0_effective_12 : decode cX0_effective 12 = .ok (.invokevirtual 70, 3) := by decide +kernel
theorem dX0_effective_15 : decode cX0_effective 15 = .ok (.freturn, 1) := by decide +kernel
theorem dX0_effective_16 : decode cX0_effective 16 = .ok (.aload_n 0, 1) := by decide +kernel
theorem dX0_effective_17 : decode cX0_effective 17 = .ok (.getfield 24, 3) := by decide +kernel
theorem dX0_effective_20 : decode cX0_effective 20 = .ok (.iload_n 1, 1) := by decide +kernel
theorem dX0_effective_21 : decode cX0_effective 21 = .ok (.iaload, 1) := by decide +kernel
theorem dX0_effective_22 : decode cX0_effective 22 = .ok (.istore_n 3, 1) := by decide +kernel
theorem dX0_effective_23 : decode cX0_effective 23 = .ok (.aload_n 0, 1) := by decide +kernel
theorem dX0_effective_24 : decode cX0_effective 24 = .ok (.iload_n 1, 1) := by decide +kernel
theorem dX0_effective_25 : decode cX0_effective 25 = .ok (.aload_n 0, 1) := by decide +kernel
theorem dX0_effective_26 : decode cX0_effective 26 = .ok (.getfield 30, 3) := by decide +kernel
theorem dX0_effective_29 : decode cX0_effective 29 = .ok (.iload_n 1, 1) := by decide +kernel
theorem dX0_effective_30 : decode cX0_effective 30 = .ok (.iaload, 1) := by decide +kernel
theorem dX0_effective_31 : decode cX0_effective 31 = .ok (.invokevirtual 70, 3) := by decide +kernel
theorem dX0_effective_34 : decode cX0_effective 34 = .ok (.aload_n 0, 1) := by decide +kernel
theorem dX0_effective_35 : decode cX0_effective 35 = .ok (.iload_n 3, 1) := by decide +kernel
theorem dX0_effective_36 : decode cX0_effective 36 = .ok (.aload_n 0, 1) := by decide +kernel
theorem dX0_effective_37 : decode cX0_effective 37 = .ok (.getfield 30, 3) := by decide +kernel
theorem dX0_effective_40 : decode cX0_effective 40 = .ok (.iload_n 1, 1) := by decide +kernel
theorem dX0_effective_41 : decode cX0_effective 41 = .ok (.iaload, 1) := by decide +kernel
theorem dX0_effective_42 : decode cX0_effective 42 = .ok (.invokevirtual 70, 3) := by decide +kernel
theorem dX0_effective_45 : decode cX0_effective 45 = .ok (.invokestatic 61, 3) := by decide +kernel
theorem dX0_effective_48 : decode cX0_effective 48 = .ok (.fstore 4, 2) := by decide +kernel
theorem dX0_effective_50 : decode cX0_effective 50 = .ok (.aload_n 0, 1) := by decide +kernel
theorem dX0_effective_51 : decode cX0_effective 51 = .ok (.iload_n 3, 1) := by decide +kernel
theorem dX0_effective_52 : decode cX0_effective 52 = .ok (.iload_n 2, 1) := by decide +kernel
theorem dX0_effective_53 : decode cX0_effective 53 = .ok (.invokevirtual 70, 3) := by decide +kernel
theorem dX0_effective_56 : decode cX0_effective 56 = .ok (.fload 4, 2) := by decide +kernel
theorem dX0_effective_58 : decode cX0_effective 58 = .ok (.invokestatic 74, 3) := by decide +kernel
theorem dX0_effective_61 : decode cX0_effective 61 = .ok (.freturn, 1) := by decide +kernel
set_option maxRecDepth 20000 in
theorem ggX1_init_X0_init : GoodIn wsX1_init wsX0_init := goodIn_r _ [10, 11, 2, 3, 12, 13, 14, 15, 16, 17, 18, 19, 20, 24, 25, 26, 27, 28, 29, 30, 31, 32, 33] (by decide +kernel) (by decide +kernel)
set_option maxRecDepth 20000 in
theorem gX1_init_X0_init : GoodIn wsX1_init (wsX0_init) := ggX1_init_X0_init
