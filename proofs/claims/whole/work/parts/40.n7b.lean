theorem dX7_number_64 : decode cX7_number 64 = .ok (.if_icmp .eq 35, 3) := by decide +kernel
theorem dX7_number_67 : decode cX7_number 67 = .ok (.iload 4, 2) := by decide +kernel
theorem dX7_number_69 : decode cX7_number 69 = .ok (.iload_n 2, 1) := by decide +kernel
theorem dX7_number_70 : decode cX7_number 70 = .ok (.isub, 1) := by decide +kernel
theorem dX7_number_71 : decode cX7_number 71 = .ok (.iconst 5, 1) := by decide +kernel
theorem dX7_number_72 : decode cX7_number 72 = .ok (.if_icmp .gt 27, 3) := by decide +kernel
theorem dX7_number_75 : decode cX7_number 75 = .ok (.iload 4, 2) := by decide +kernel
theorem dX7_number_77 : decode cX7_number 77 = .ok (.iload_n 2, 1) := by decide +kernel
theorem dX7_number_78 : decode cX7_number 78 = .ok (.isub, 1) := by decide +kernel
theorem dX7_number_79 : decode cX7_number 79 = .ok (.iconst 1, 1) := by decide +kernel
theorem dX7_number_80 : decode cX7_number 80 = .ok (.if_icmp .le 14, 3) := by decide +kernel
theorem dX7_number_83 : decode cX7_number 83 = .ok (.aload_n 0, 1) := by decide +kernel
theorem dX7_number_84 : decode cX7_number 84 = .ok (.getfield 16, 3) := by decide +kernel
theorem dX7_number_87 : decode cX7_number 87 = .ok (.iload_n 2, 1) := by decide +kernel
theorem dX7_number_88 : decode cX7_number 88 = .ok (.baload, 1) := by decide +kernel
theorem dX7_number_89 : decode cX7_number 89 = .ok (.bipush 48, 2) := by decide +kernel
theorem dX7_number_91 : decode cX7_number 91 = .ok (.if_icmp .eq 8, 3) := by decide +kernel
theorem dX7_number_94 : decode cX7_number 94 = .ok (.iload_n 3, 1) := by decide +kernel
theorem dX7_number_95 : decode cX7_number 95 = .ok (.iload_n 1, 1) := by decide +kernel
theorem dX7_number_96 : decode cX7_number 96 = .ok (.if_icmp .le 7, 3) := by decide +kernel
theorem dX7_number_99 : decode cX7_number 99 = .ok (.iconst 1, 1) := by decide +kernel
theorem dX7_number_100 : decode cX7_number 100 = .ok (.goto 4, 3) := by decide +kernel
theorem dX7_number_103 : decode cX7_number 103 = .ok (.iconst 0, 1) := by decide +kernel
theorem dX7_number_104 : decode cX7_number 104 = .ok (.putfield 65, 3) := by decide +kernel
theorem dX7_number_107 : decode cX7_number 107 = .ok (.aload_n 0, 1) := by decide +kernel
theorem dX7_number_108 : decode cX7_number 108 = .ok (.aload_n 0, 1) := by decide +kernel
theorem dX7_number_109 : decode cX7_number 109 = .ok (.getfield 65, 3) := by decide +kernel
theorem dX7_number_112 : decode cX7_number 112 = .ok (.ifCond .eq 7, 3) := by decide +kernel
theorem dX7_number_115 : decode cX7_number 115 = .ok (.iload_n 2, 1) := by decide +kernel
theorem dX7_number_116 : decode cX7_number 116 = .ok (.goto 5, 3) := by decide +kernel
theorem dX7_number_119 : decode cX7_number 119 = .ok (.iload 4, 2) := by decide +kernel
theorem dX7_number_121 : decode cX7_number 121 = .ok (.putfield 59, 3) := by decide +kernel
theorem dX7_number_124 : decode cX7_number 124 = .ok (.iload_n 3, 1) := by decide +kernel
theorem dX7_number_125 : decode cX7_number 125 = .ok (.ireturn, 1) := by decide +kernel
theorem dX7_pass_0 : decode cX7_pass 0 = .ok (.aload_n 0, 1) := by decide +kernel
theorem dX7_pass_1 : decode cX7_pass 1 = .ok (.getfield 65, 3) := by decide +kernel
theorem dX7_pass_4 : decode cX7_pass 4 = .ok (.ifCond .ne 57, 3) := by decide +kernel
theorem dX7_pass_7 : decode cX7_pass 7 = .ok (.aload_n 0, 1) := by decide +kernel
theorem dX7_pass_8 : decode cX7_pass 8 = .ok (.aload_n 0, 1) := by decide +kernel
theorem dX7_pass_9 : decode cX7_pass 9 = .ok (.getfield 59, 3) := by decide +kernel
theorem dX7_pass_12 : decode cX7_pass 12 = .ok (.aload_n 0, 1) := by decide +kernel
theorem dX7_pass_13 : decode cX7_pass 13 = .ok (.getfield 56, 3) := by decide +kernel
theorem dX7_pass_16 : decode cX7_pass 16 = .ok (.if_icmp .ge 16, 3) := by decide +kernel
theorem dX7_pass_19 : decode cX7_pass 19 = .ok (.aload_n 0, 1) := by decide +kernel
theorem dX7_pass_20 : decode cX7_pass 20 = .ok (.getfield 16, 3) := by decide +kernel
theorem dX7_pass_23 : decode cX7_pass 23 = .ok (.aload_n 0, 1) := by decide +kernel
theorem dX7_pass_24 : decode cX7_pass 24 = .ok (.getfield 59, 3) := by decide +kernel
theorem dX7_pass_27 : decode cX7_pass 27 = .ok (.baload, 1) := by decide +kernel
theorem dX7_pass_28 : decode cX7_pass 28 = .ok (.iload_n 1, 1) := by decide +kernel
theorem dX7_pass_29 : decode cX7_pass 29 = .ok (.if_icmp .eq 7, 3) := by decide +kernel
theorem dX7_pass_32 : decode cX7_pass 32 = .ok (.iconst 1, 1) := by decide +kernel
theorem dX7_pass_33 : decode cX7_pass 33 = .ok (.goto 4, 3) := by decide +kernel
theorem dX7_pass_36 : decode cX7_pass 36 = .ok (.iconst 0, 1) := by decide +kernel
theorem dX7_pass_37 : decode cX7_pass 37 = .ok (.putfield 65, 3) := by decide +kernel
theorem dX7_pass_40 : decode cX7_pass 40 = .ok (.aload_n 0, 1) := by decide +kernel
theorem dX7_pass_41 : decode cX7_pass 41 = .ok (.dup, 1) := by decide +kernel
theorem dX7_pass_42 : decode cX7_pass 42 = .ok (.getfield 59, 3) := by decide +kernel
theorem dX7_pass_45 : decode cX7_pass 45 = .ok (.aload_n 0, 1) := by decide +kernel
theorem dX7_pass_46 : decode cX7_pass 46 = .ok (.getfield 65, 3) := by decide +kernel
theorem dX7_pass_49 : decode cX7_pass 49 = .ok (.ifCond .eq 7, 3) := by decide +kernel
theorem dX7_pass_52 : decode cX7_pass 52 = .ok (.iconst 0, 1) := by decide +kernel
theorem dX7_pass_53 : decode cX7_pass 53 = .ok (.goto 4, 3) := by decide +kernel
theorem dX7_pass_56 : decode cX7_pass 56 = .ok (.iconst 1, 1) := by decide +kernel
theorem dX7_pass_57 : decode cX7_pass 57 = .ok (.iadd, 1) := by decide +kernel
theorem dX7_pass_58 : decode cX7_pass 58 = .ok (.putfield 59, 3) := by decide +kernel
theorem dX7_pass_61 : decode cX7_pass 61 = .ok (.return_, 1) := by decide +kernel
set_option maxRecDepth 20000 in
theorem ggX7_read_X7_number : GoodIn wsX7_read wsX7_number := goodIn_r _ [11, 1, 12, 3, 13, 14, 15, 10, 16, 2, 17, 18, 19, 24, 25, 26, 27, 28, 29, 30, 31, 32, 33, 34, 35, 36, 37, 38] (by decide +kernel) (by decide +kernel)
set_option maxRecDepth 20000 in
theorem gX7_read_X7_number : GoodIn wsX7_read (wsV RX7 69 RX7 yX7_number wsX7_number) := goodIn_app (goodIn_of _ (by decide +kernel)) ggX7_read_X7_number
set_option maxRecDepth 20000 in
theorem ggX7_read_X7_pass : GoodIn wsX7_read wsX7_pass := goodIn_r _ [23, 3, 1, 2, 12, 24, 25, 26, 27, 28, 29, 30, 31, 32, 33, 34, 35, 36, 37, 38] (by decide +kernel) (by decide +kernel)
set_option maxRecDepth 20000 in
theorem gX7_read_X7_pass : GoodIn wsX7_read (wsV RX7 73 RX7 yX7_pass wsX7_pass) := goodIn_app (goodIn_of _ (by decide +kernel)) ggX7_read_X7_pass
theorem dX7_read_0 : decode cX7_read 0 = .ok (.aload_n 0, 1) := by decide +kernel
theorem dX7_read_1 : decode cX7_read 1 = .ok (.iconst 0, 1) := by decide +kernel
theorem dX7_read_2 : decode cX7_read 2 = .ok (.putfield 59, 3) := by decide +kernel
theorem dX7_read_5 : decode cX7_read 5 = .ok (.aload_n 0, 1) := by decide +kernel
theorem dX7_read_6 : decode cX7_read 6 = .ok (.aload_n 0, 1) := by decide +kernel
theorem dX7_read_7 : decode cX7_read 7 = .ok (.getfield 56, 3) := by decide +kernel
theorem dX7_read_10 : decode cX7_read 10 = .ok (.ifCond .ne 7, 3) := by decide +kernel
theorem dX7_read_13 : decode cX7_read 13 = .ok (.iconst 1, 1) := by decide +kernel
theorem dX7_read_14 : decode cX7_read 14 = .ok (.goto 4, 3) := by decide +kernel
theorem dX7_read_17 : decode cX7_read 17 = .ok (.iconst 0, 1) := by decide +kernel
theorem dX7_read_18 : decode cX7_read 18 = .ok (.putfield 65, 3) := by decide +kernel
theorem dX7_read_21 : decode cX7_read 21 = .ok (.iconst 0, 1) := by decide +kernel
theorem dX7_read_22 : decode cX7_read 22 = .ok (.istore_n 1, 1) := by decide +kernel
theorem dX7_read_23 : decode cX7_read 23 = .ok (.aload_n 0, 1) := by decide +kernel
theorem dX7_read_24 : decode cX7_read 24 = .ok (.getfield 65, 3) := by decide +kernel
theorem dX7_read_27 : decode cX7_read 27 = .ok (.ifCond .ne 127, 3) := by decide +kernel
theorem dX7_read_30 : decode cX7_read 30 = .ok (.aload_n 0, 1) := by decide +kernel
theorem dX7_read_31 : decode cX7_read 31 = .ok (.getfield 59, 3) := by decide +kernel
theorem dX7_read_34 : decode cX7_read 34 = .ok (.aload_n 0, 1) := by decide +kernel
theorem dX7_read_35 : decode cX7_read 35 = .ok (.getfield 56, 3) := by decide +kernel
theorem dX7_read_38 : decode cX7_read 38 = .ok (.if_icmp .ge 116, 3) := by decide +kernel
theorem dX7_read_41 : decode cX7_read 41 = .ok (.aload_n 0, 1) := by decide +kernel
theorem dX7_read_42 : decode cX7_read 42 = .ok (.aload_n 0, 1) := by decide +kernel
theorem dX7_read_43 : decode cX7_read 43 = .ok (.getfield 7, 3) := by decide +kernel
theorem dX7_read_46 : decode cX7_read 46 = .ok (.iconst 5, 1) := by decide +kernel
theorem dX7_read_47 : decode cX7_read 47 = .ok (.iaload, 1) := by decide +kernel
theorem dX7_read_48 : decode cX7_read 48 = .ok (.iconst 1, 1) := by decide +kernel
theorem dX7_read_49 : decode cX7_read 49 = .ok (.isub, 1) := by decide +kernel
theorem dX7_read_50 : decode cX7_read 50 = .ok (.invokevirtual 69, 3) := by decide +kernel
theorem dX7_read_53 : decode cX7_read 53 = .ok (.istore_n 2, 1) := by decide +kernel
theorem dX7_read_54 : decode cX7_read 54 = .ok (.aload_n 0, 1) := by decide +kernel
theorem dX7_read_55 : decode cX7_read 55 = .ok (.bipush 64, 2) := by decide +kernel
theorem dX7_read_57 : decode cX7_read 57 = .ok (.invokevirtual 73, 3) := by decide +kernel
theorem dX7_read_60 : decode cX7_read 60 = .ok (.aload_n 0, 1) := by decide +kernel
theorem dX7_read_61 : decode cX7_read 61 = .ok (.getfield 65, 3) := by decide +kernel
theorem dX7_read_64 : decode cX7_read 64 = .ok (.ifCond .eq 7, 3) := by decide +kernel
theorem dX7_read_67 : decode cX7_read 67 = .ok (.iconst 0, 1) := by decide +kernel
theorem dX7_read_68 : decode cX7_read 68 = .ok (.goto 9, 3) := by decide +kernel
theorem dX7_read_71 : decode cX7_read 71 = .ok (.aload_n 0, 1) := by decide +kernel
theorem dX7_read_72 : decode cX7_read 72 = .ok (.bipush 23, 2) := by decide +kernel
theorem dX7_read_74 : decode cX7_read 74 = .ok (.invokevirtual 69, 3) := by decide +kernel
theorem dX7_read_77 : decode cX7_read 77 = .ok (.istore_n 3, 1) := by decide +kernel
theorem dX7_read_78 : decode cX7_read 78 = .ok (.aload_n 0, 1) := by decide +kernel
theorem dX7_read_79 : decode cX7_read 79 = .ok (.bipush 61, 2) := by decide +kernel
theorem dX7_read_81 : decode cX7_read 81 = .ok (.invokevirtual 73, 3) := by decide +kernel
theorem dX7_read_84 : decode cX7_read 84 = .ok (.aload_n 0, 1) := by decide +kernel
theorem dX7_read_85 : decode cX7_read 85 = .ok (.getfield 65, 3) := by decide +kernel
theorem dX7_read_88 : decode cX7_read 88 = .ok (.ifCond .eq 7, 3) := by decide +kernel
theorem dX7_read_91 : decode cX7_read 91 = .ok (.iconst 0, 1) := by decide +kernel
theorem dX7_read_92 : decode cX7_read 92 = .ok (.goto 9, 3) := by decide +kernel
theorem dX7_read_95 : decode cX7_read 95 = .ok (.aload_n 0, 1) := by decide +kernel
theorem dX7_read_96 : decode cX7_read 96 = .ok (.ldc 55, 2) := by decide +kernel
theorem dX7_read_98 : decode cX7_read 98 = .ok (.invokevirtual 69, 3) := by decide +kernel
theorem dX7_read_101 : decode cX7_read 101 = .ok (.istore 4, 2) := by decide +kernel
theorem dX7_read_103 : decode cX7_read 103 = .ok (.aload_n 0, 1) := by decide +kernel
theorem dX7_read_104 : decode cX7_read 104 = .ok (.bipush 59, 2) := by decide +kernel
theorem dX7_read_106 : decode cX7_read 106 = .ok (.invokevirtual 73, 3) := by decide +kernel
theorem dX7_read_109 : decode cX7_read 109 = .ok (.aload_n 0, 1) := by decide +kernel
theorem dX7_read_110 : decode cX7_read 110 = .ok (.getfield 65, 3) := by decide +kernel
theorem dX7_read_113 : decode cX7_read 113 = .ok (.ifCond .ne 38, 3) := by decide +kernel
theorem dX7_read_116 : decode cX7_read 116 = .ok (.aload_n 0, 1) := by decide +kernel
theorem dX7_read_117 : decode cX7_read 117 = .ok (.getfield 20, 3) := by decide +kernel
theorem dX7_read_120 : decode cX7_read 120 = .ok (.iconst 3, 1) := by decide +kernel
theorem dX7_read_121 : decode cX7_read 121 = .ok (.iload_n 1, 1) := by decide +kernel
theorem dX7_read_122 : decode cX7_read 122 = .ok (.imul, 1) := by decide +kernel
theorem dX7_read_123 : decode cX7_read 123 = .ok (.iload_n 2, 1) := by decide +kernel
theorem dX7_read_124 : decode cX7_read 124 = .ok (.iastore, 1) := by decide +kernel
theorem dX7_read_125 : decode cX7_read 125 = .ok (.aload_n 0, 1) := by decide +kernel
theorem dX7_read_126 : decode cX7_read 126 = .ok (.getfield 20, 3) := by decide +kernel
theorem dX7_read_129 : decode cX7_read 129 = .ok (.iconst 3, 1) := by decide +kernel
theorem dX7_read_130 : decode cX7_read 130 = .ok (.iload_n 1, 1) := by decide +kernel
theorem dX7_read_131 : decode cX7_read 131 = .ok (.imul, 1) := by decide +kernel
theorem dX7_read_132 : decode cX7_read 132 = .ok (.iconst 1, 1) := by decide +kernel
theorem dX7_read_133 : decode cX7_read 133 = .ok (.iadd, 1) := by decide +kernel
theorem dX7_read_134 : decode cX7_read 134 = .ok (.iload_n 3, 1) := by decide +kernel
theorem dX7_read_135 : decode cX7_read 135 = .ok (.iastore, 1) := by decide +kernel
theorem dX7_read_136 : decode cX7_read 136 = .ok (.aload_n 0, 1) := by decide +kernel
theorem dX7_read_137 : decode cX7_read 137 = .ok (.getfield 20, 3) := by decide +kernel
theorem dX7_read_140 : decode cX7_read 140 = .ok (.iconst 3, 1) := by decide +kernel
theorem dX7_read_141 : decode cX7_read 141 = .ok (.iload_n 1, 1) := by decide +kernel
theorem dX7_read_142 : decode cX7_read 142 = .ok (.imul, 1) := by decide +kernel
theorem dX7_read_143 : decode cX7_read 143 = .ok (.iconst 2, 1) := by decide +kernel
theorem dX7_read_144 : decode cX7_read 144 = .ok (.iadd, 1) := by decide +kernel
theorem dX7_read_145 : decode cX7_read 145 = .ok (.iload 4, 2) := by decide +kernel
theorem dX7_read_147 : decode cX7_read 147 = .ok (.iastore, 1) := by decide +kernel
theorem dX7_read_148 : decode cX7_read 148 = .ok (.iinc 1 1, 3) := by decide +kernel
theorem dX7_read_151 : decode cX7_read 151 = .ok (.goto (-128), 3) := by decide +kernel
theorem dX7_read_154 : decode cX7_read 154 = .ok (.iload_n 1, 1) := by decide +kernel
theorem dX7_read_155 : decode cX7_read 155 = .ok (.ireturn, 1) := by decide +kernel
set_option maxRecDepth 20000 in
theorem ggX7_importPrices_X7_read : GoodIn wsX7_importPrices wsX7_read := goodIn_r _ [10, 2, 5, 1, 3, 11, 4, 12, 13, 14, 9, 15, 16, 17, 18, 19, 20, 21, 22, 23, 24, 25, 26, 27, 34, 35, 36, 37, 38, 39, 40, 41, 42, 43, 44, 45, 46, 47, 48] (by decide +kernel) (by decide +kernel)
set_option maxRecDepth 20000 in
theorem gX7_importPrices_X7_read : GoodIn wsX7_importPrices (wsV RX7 77 RX7 yX7_read wsX7_read) := goodIn_app (goodIn_of _ (by decide +kernel)) ggX7_importPrices_X7_read
set_option maxRecDepth 20000 in
theorem ggX7_importPrices_X7_edit : GoodIn wsX7_importPrices wsX7_edit := goodIn_r _ [31, 32, 33, 3, 34, 35, 36, 37, 38, 39, 40, 41, 42, 43, 44, 45, 46, 47, 48] (by decide +kernel) (by decide +kernel)
set_option maxRecDepth 20000 in
theorem gX7_importPrices_X7_edit : GoodIn wsX7_importPrices (wsV RX7 46 RX7 yX7_edit wsX7_edit) := goodIn_app (goodIn_of _ (by decide +kernel)) ggX7_importPrices_X7_edit
theorem dX7_importPrices_0 : decode cX7_importPrices 0 = .ok (.aload_n 0, 1) := by decide +kernel
theorem dX7_importPrices_1 : decode cX7_importPrices 1 = .ok (.invokevirtual 77, 3) := by decide +kernel
theorem dX7_importPrices_4 : decode cX7_importPrices 4 = .ok (.istore_n 1, 1) := by decide +kernel
theorem dX7_importPrices_5 : decode cX7_importPrices 5 = .ok (.aload_n 0, 1) := by decide +kernel
theorem dX7_importPrices_6 : decode cX7_importPrices 6 = .ok (.getfield 65, 3) := by decide +kernel
theorem dX7_importPrices_9 : decode cX7_importPrices 9 = .ok (.ifCond .eq 11, 3) := by decide +kernel
theorem dX7_importPrices_12 : decode cX7_importPrices 12 = .ok (.bipush (-10), 2) := by decide +kernel
theorem dX7_importPrices_14 : decode cX7_importPrices 14 = .ok (.aload_n 0, 1) := by decide +kernel
theorem dX7_importPrices_15 : decode cX7_importPrices 15 = .ok (.getfield 59, 3) := by decide +kernel
theorem dX7_importPrices_18 : decode cX7_importPrices 18 = .ok (.isub, 1) := by decide +kernel
theorem dX7_importPrices_19 : decode cX7_importPrices 19 = .ok (.ireturn, 1) := by decide +kernel
theorem dX7_importPrices_20 : decode cX7_importPrices 20 = .ok (.aload_n 0, 1) := by decide +kernel
theorem dX7_importPrices_21 : decode cX7_importPrices 21 = .ok (.invokevirtual 46, 3) := by decide +kernel
theorem dX7_importPrices_24 : decode cX7_importPrices 24 = .ok (.iconst 0, 1) := by decide +kernel
theorem dX7_importPrices_25 : decode cX7_importPrices 25 = .ok (.istore_n 2, 1) := by decide +kernel
theorem dX7_importPrices_26 : decode cX7_importPrices 26 = .ok (.iload_n 2, 1) := by decide +kernel
theorem dX7_importPrices_27 : decode cX7_importPrices 27 = .ok (.iload_n 1, 1) := by decide +kernel
theorem dX7_importPrices_28 : decode cX7_importPrices 28 = .ok (.if_icmp .ge 49, 3) := by decide +kernel
theorem dX7_importPrices_31 : decode cX7_importPrices 31 = .ok (.aload_n 0, 1) := by decide +kernel
theorem dX7_importPrices_32 : decode cX7_importPrices 32 = .ok (.getfield 7, 3) := by decide +kernel
theorem dX7_importPrices_35 : decode cX7_importPrices 35 = .ok (.bipush 66, 2) := by decide +kernel
theorem dX7_importPrices_37 : decode cX7_importPrices 37 = .ok (.bipush 24, 2) := by decide +kernel
theorem dX7_importPrices_39 : decode cX7_importPrices 39 = .ok (.aload_n 0, 1) := by decide +kernel
theorem dX7_importPrices_40 : decode cX7_importPrices 40 = .ok (.getfield 20, 3) := by decide +kernel
theorem dX7_importPrices_43 : decode cX7_importPrices 43 = .ok (.iconst 3, 1) := by decide +kernel
theorem dX7_importPrices_44 : decode cX7_importPrices 44 = .ok (.iload_n 2, 1) := by decide +kernel
theorem dX7_importPrices_45 : decode cX7_importPrices 45 = .ok (.imul, 1) := by decide +kernel
theorem dX7_importPrices_46 : decode cX7_importPrices 46 = .ok (.iaload, 1) := by decide +kernel
theorem dX7_importPrices_47 : decode cX7_importPrices 47 = .ok (.imul, 1) := by decide +kernel
theorem dX7_importPrices_48 : decode cX7_importPrices 48 = .ok (.iadd, 1) := by decide +kernel
theorem dX7_importPrices_49 : decode cX7_importPrices 49 = .ok (.aload_n 0, 1) := by decide +kernel
theorem dX7_importPrices_50 : decode cX7_importPrices 50 = .ok (.getfield 20, 3) := by decide +kernel
theorem dX7_importPrices_53 : decode cX7_importPrices 53 = .ok (.iconst 3, 1) := by decide +kernel
theorem dX7_importPrices_54 : decode cX7_importPrices 54 = .ok (.iload_n 2, 1) := by decide +kernel
theorem dX7_importPrices_55 : decode cX7_importPrices 55 = .ok (.imul, 1) := by decide +kernel
theorem dX7_importPrices_56 : decode cX7_importPrices 56 = .ok (.iconst 1, 1) := by decide +kernel
theorem dX7_importPrices_57 : decode cX7_importPrices 57 = .ok (.iadd, 1) := by decide +kernel
theorem dX7_importPrices_58 : decode cX7_importPrices 58 = .ok (.iaload, 1) := by decide +kernel
theorem dX7_importPrices_59 : decode cX7_importPrices 59 = .ok (.iadd, 1) := by decide +kernel
theorem dX7_importPrices_60 : decode cX7_importPrices 60 = .ok (.aload_n 0, 1) := by decide +kernel
theorem dX7_importPrices_61 : decode cX7_importPrices 61 = .ok (.getfield 20, 3) := by decide +kernel
theorem dX7_importPrices_64 : decode cX7_importPrices 64 = .ok (.iconst 3, 1) := by decide +kernel
theorem dX7_importPrices_65 : decode cX7_importPrices 65 = .ok (.iload_n 2, 1) := by decide +kernel
theorem dX7_importPrices_66 : decode cX7_importPrices 66 = .ok (.imul, 1) := by decide +kernel
theorem dX7_importPrices_67 : decode cX7_importPrices 67 = .ok (.iconst 2, 1) := by decide +kernel
theorem dX7_importPrices_68 : decode cX7_importPrices 68 = .ok (.iadd, 1) := by decide +kernel
theorem dX7_importPrices_69 : decode cX7_importPrices 69 = .ok (.iaload, 1) := by decide +kernel
theorem dX7_importPrices_70 : decode cX7_importPrices 70 = .ok (.iastore, 1) := by decide +kernel
theorem dX7_importPrices_71 : decode cX7_importPrices 71 = .ok (.iinc 2 1, 3) := by decide +kernel
theorem dX7_importPrices_74 : decode cX7_importPrices 74 = .ok (.goto (-48), 3) := by decide +kernel
theorem dX7_importPrices_77 : decode cX7_importPrices 77 = .ok (.aload_n 0, 1) := by decide +kernel
theorem dX7_importPrices_78 : decode cX7_importPrices 78 = .ok (.iconst 0, 1) := by decide +kernel
theorem dX7_importPrices_79 : decode cX7_importPrices 79 = .ok (.putfield 56, 3) := by decide +kernel
theorem dX7_importPrices_82 : decode cX7_importPrices 82 = .ok (.iload_n 1, 1) := by decide +kernel
theorem dX7_importPrices_83 : decode cX7_importPrices 83 = .ok (.ireturn, 1) := by decide +kernel
theorem dX7_oldOf_0 : decode cX7_oldOf 0 = .ok (.iconst 0, 1) := by decide +kernel
theorem dX7_oldOf_1 : decode cX7_oldOf 1 = .ok (.istore_n 2, 1) := by decide +kernel
theorem dX7_oldOf_2 : decode cX7_oldOf 2 = .ok (.iload_n 2, 1) := by decide +kernel
theorem dX7_oldOf_3 : decode cX7_oldOf 3 = .ok (.aload_n 0, 1) := by decide +kernel
theorem dX7_oldOf_4 : decode cX7_oldOf 4 = .ok (.getfield 7, 3) := by decide +kernel
theorem dX7_oldOf_7 : decode cX7_oldOf 7 = .ok (.iconst 5, 1) := by decide +kernel
theorem dX7_oldOf_8 : decode cX7_oldOf 8 = .ok (.iaload, 1) := by decide +kernel
theorem dX7_oldOf_9 : decode cX7_oldOf 9 = .ok (.if_icmp .ge 24, 3) := by decide +kernel
theorem dX7_oldOf_12 : decode cX7_oldOf 12 = .ok (.aload_n 0, 1) := by decide +kernel
theorem dX7_oldOf_13 : decode cX7_oldOf 13 = .ok (.getfield 7, 3) := by decide +kernel
theorem dX7_oldOf_16 : decode cX7_oldOf 16 = .ok (.bipush 42, 2) := by decide +kernel
theorem dX7_oldOf_18 : decode cX7_oldOf 18 = .ok (.iload_n 2, 1) := by decide +kernel
theorem dX7_oldOf_19 : decode cX7_oldOf 19 = .ok (.iadd, 1) := by decide +kernel
theorem dX7_oldOf_20 : decode cX7_oldOf 20 = .ok (.iaload, 1) := by decide +kernel
theorem dX7_oldOf_21 : decode cX7_oldOf 21 = .ok (.iload_n 1, 1) := by decide +kernel
theorem dX7_oldOf_22 : decode cX7_oldOf 22 = .ok (.if_icmp .ne 5, 3) := by decide +kernel
theorem dX7_oldOf_25 : decode cX7_oldOf 25 = .ok (.iload_n 2, 1) := by decide +kernel
theorem dX7_oldOf_26 : decode cX7_oldOf 26 = .ok (.ireturn, 1) := by decide +kernel
theorem dX7_oldOf_27 : decode cX7_oldOf 27 = .ok (.iinc 2 1, 3) := by decide +kernel
theorem dX7_oldOf_30 : decode cX7_oldOf 30 = .ok (.goto (-28), 3) := by decide +kernel
theorem dX7_oldOf_33 : decode cX7_oldOf 33 = .ok (.bipush (-9), 2) := by decide +kernel
theorem dX7_oldOf_35 : decode cX7_oldOf 35 = .ok (.ireturn, 1) := by decide +kernel
set_option maxRecDepth 20000 in
theorem ggX7_takesPart_X7_oldOf : GoodIn wsX7_takesPart wsX7_oldOf := goodIn_r _ [6, 1, 7, 8, 9, 10, 11, 12, 13, 14, 15, 16, 17, 18, 19, 20, 21] (by decide +kernel) (by decide +kernel)
set_option maxRecDepth 20000 in
theorem gX7_takesPart_X7_oldOf : GoodIn wsX7_takesPart (wsV RX7 81 RX7 yX7_oldOf wsX7_oldOf) := goodIn_app (goodIn_of _ (by decide +kernel)) ggX7_takesPart_X7_oldOf
theorem dX7_takesPart_0 : decode cX7_takesPart 0 = .ok (.aload_n 0, 1) := by decide +kernel
theorem dX7_takesPart_1 : decode cX7_takesPart 1 = .ok (.getfield 7, 3) := by decide +kernel
theorem dX7_takesPart_4 : decode cX7_takesPart 4 = .ok (.bipush 42, 2) := by decide +kernel
theorem dX7_takesPart_6 : decode cX7_takesPart 6 = .ok (.iload_n 1, 1) := by decide +kernel
theorem dX7_takesPart_7 : decode cX7_takesPart 7 = .ok (.iadd, 1) := by decide +kernel
theorem dX7_takesPart_8 : decode cX7_takesPart 8 = .ok (.iaload, 1) := by decide +kernel
theorem dX7_takesPart_9 : decode cX7_takesPart 9 = .ok (.bipush (-9), 2) := by decide +kernel
theorem dX7_takesPart_11 : decode cX7_takesPart 11 = .ok (.if_icmp .ne 13, 3) := by decide +kernel
theorem dX7_takesPart_14 : decode cX7_takesPart 14 = .ok (.aload_n 0, 1) := by decide +kernel
theorem dX7_takesPart_15 : decode cX7_takesPart 15 = .ok (.iload_n 1, 1) := by decide +kernel
theorem dX7_takesPart_16 : decode cX7_takesPart 16 = .ok (.invokevirtual 81, 3) := by decide +kernel
theorem dX7_takesPart_19 : decode cX7_takesPart 19 = .ok (.bipush (-9), 2) := by decide +kernel
theorem dX7_takesPart_21 : decode cX7_takesPart 21 = .ok (.if_icmp .eq 7, 3) := by decide +kernel
theorem dX7_takesPart_24 : decode cX7_takesPart 24 = .ok (.iconst 1, 1) := by decide +kernel
theorem dX7_takesPart_25 : decode cX7_takesPart 25 = .ok (.goto 4, 3) := by decide +kernel
theorem dX7_takesPart_28 : decode cX7_takesPart 28 = .ok (.iconst 0, 1) := by decide +kernel
theorem dX7_takesPart_29 : decode cX7_takesPart 29 = .ok (.ireturn, 1) := by decide +kernel
theorem dX7_replacements_0 : decode cX7_replacements 0 = .ok (.iconst 0, 1) := by decide +kernel
theorem dX7_replacements_1 : decode cX7_replacements 1 = .ok (.istore_n 1, 1) := by decide +kernel
theorem dX7_replacements_2 : decode cX7_replacements 2 = .ok (.iconst 0, 1) := by decide +kernel
theorem dX7_replacements_3 : decode cX7_replacements 3 = .ok (.istore_n 2, 1) := by decide +kernel
theorem dX7_replacements_4 : decode cX7_replacements 4 = .ok (.iload_n 2, 1) := by decide +kernel
theorem dX7_replacements_5 : decode cX7_replacements 5 = .ok (.aload_n 0, 1) := by decide +kernel
theorem dX7_replacements_6 : decode cX7_replacements 6 = .ok (.getfield 7, 3) := by decide +kernel
theorem dX7_replacements_9 : decode cX7_replacements 9 = .ok (.iconst 5, 1) := by decide +kernel
theorem dX7_replacements_10 : decode cX7_replacements 10 = .ok (.iaload, 1) := by decide +kernel
theorem dX7_replacements_11 : decode cX7_replacements 11 = .ok (.if_icmp .ge 31, 3) := by decide +kernel
theorem dX7_replacements_14 : decode cX7_replacements 14 = .ok (.iload_n 1, 1) := by decide +kernel
theorem dX7_replacements_15 : decode cX7_replacements 15 = .ok (.aload_n 0, 1) := by decide +kernel
theorem dX7_replacements_16 : decode cX7_replacements 16 = .ok (.getfield 7, 3) := by decide +kernel
theorem dX7_replacements_19 : decode cX7_replacements 19 = .ok (.bipush 42, 2) := by decide +kernel
theorem dX7_replacements_21 : decode cX7_replacements 21 = .ok (.iload_n 2, 1) := by decide +kernel
theorem dX7_replacements_22 : decode cX7_replacements 22 = .ok (.iadd, 1) := by decide +kernel
theorem dX7_replacements_23 : decode cX7_replacements 23 = .ok (.iaload, 1) := by decide +kernel
theorem dX7_replacements_24 : decode cX7_replacements 24 = .ok (.bipush (-9), 2) := by decide +kernel
theorem dX7_replacements_26 : decode cX7_replacements 26 = .ok (.if_icmp .ne 7, 3) := by decide +kernel
theorem dX7_replacements_29 : decode cX7_replacements 29 = .ok (.iconst 0, 1) := by decide +kernel
theorem dX7_replacements_30 : decode cX7_replacements 30 = .ok (.goto 4, 3) := by decide +kernel
theorem dX7_replacements_33 : decode cX7_replacements 33 = .ok (.iconst 1, 1) := by decide +kernel
theorem dX7_replacements_34 : decode cX7_replacements 34 = .ok (.iadd, 1) := by decide +kernel
theorem dX7_replacements_35 : decode cX7_replacements 35 = .ok (.istore_n 1, 1) := by decide +kernel
theorem dX7_replacements_36 : decode cX7_replacements 36 = .ok (.iinc 2 1, 3) := by decide +kernel
theorem dX7_replacements_39 : decode cX7_replacements 39 = .ok (.goto (-35), 3) := by decide +kernel
theorem dX7_replacements_42 : decode cX7_replacements 42 = .ok (.iload_n 1, 1) := by decide +kernel
theorem dX7_replacements_43 : decode cX7_replacements 43 = .ok (.ireturn, 1) := by decide +kernel
theorem dX7_isObserved_0 : decode cX7_isObserved 0 = .ok (.aload_n 0, 1) := by decide +kernel
theorem dX7_isObserved_1 : decode cX7_isObserved 1 = .ok (.getfield 7, 3) := by decide +kernel
theorem dX7_isObserved_4 : decode cX7_isObserved 4 = .ok (.bipush 66, 2) := by decide +kernel
theorem dX7_isObserved_6 : decode cX7_isObserved 6 = .ok (.bipush 24, 2) := by decide +kernel
theorem dX7_isObserved_8 : decode cX7_isObserved 8 = .ok (.iload_n 1, 1) := by decide +kernel
theorem dX7_isObserved_9 : decode cX7_isObserved 9 = .ok (.imul, 1) := by decide +kernel
theorem dX7_isObserved_10 : decode cX7_isObserved 10 = .ok (.iadd, 1) := by decide +kernel
theorem dX7_isObserved_11 : decode cX7_isObserved 11 = .ok (.iload_n 2, 1) := by decide +kernel
theorem dX7_isObserved_12 : decode cX7_isObserved 12 = .ok (.iadd, 1) := by decide +kernel
theorem dX7_isObserved_13 : decode cX7_isObserved 13 = .ok (.iaload, 1) := by decide +kernel
theorem dX7_isObserved_14 : decode cX7_isObserved 14 = .ok (.ifCond .le 27, 3) := by decide +kernel
theorem dX7_isObserved_17 : decode cX7_isObserved 17 = .ok (.aload_n 0, 1) := by decide +kernel
theorem dX7_isObserved_18 : decode cX7_isObserved 18 = .ok (.getfield 7, 3) := by decide +kernel
theorem dX7_isObserved_21 : decode cX7_isObserved 21 = .ok (.bipush 30, 2) := by decide +kernel
theorem dX7_isObserved_23 : decode cX7_isObserved 23 = .ok (.iload_n 1, 1) := by decide +kernel
theorem dX7_isObserved_24 : decode cX7_isObserved 24 = .ok (.iadd, 1) := by decide +kernel
theorem dX7_isObserved_25 : decode cX7_isObserved 25 = .ok (.iaload, 1) := by decide +kernel
theorem dX7_isObserved_26 : decode cX7_isObserved 26 = .ok (.iload_n 2, 1) := by decide +kernel
theorem dX7_isObserved_27 : decode cX7_isObserved 27 = .ok (.bipush 12, 2) := by decide +kernel
theorem dX7_isObserved_29 : decode cX7_isObserved 29 = .ok (.irem, 1) := by decide +kernel
theorem dX7_isObserved_30 : decode cX7_isObserved 30 = .ok (.ishr, 1) := by decide +kernel
theorem dX7_isObserved_31 : decode cX7_isObserved 31 = .ok (.iconst 1, 1) := by decide +kernel
theorem dX7_isObserved_32 : decode cX7_isObserved 32 = .ok (.iand, 1) := by decide +kernel
theorem dX7_isObserved_33 : decode cX7_isObserved 33 = .ok (.iconst 1, 1) := by decide +kernel
theorem dX7_isObserved_34 : decode cX7_isObserved 34 = .ok (.if_icmp .ne 7, 3) := by decide +kernel
theorem dX7_isObserved_37 : decode cX7_isObserved 37 = .ok (.iconst 1, 1) := by decide +kernel
theorem dX7_isObserved_38 : decode cX7_isObserved 38 = .ok (.goto 4, 3) := by decide +kernel
theorem dX7_isObserved_41 : decode cX7_isObserved 41 = .ok (.iconst 0, 1) := by decide +kernel
theorem dX7_isObserved_42 : decode cX7_isObserved 42 = .ok (.ireturn, 1) := by decide +kernel
theorem dX7_observed_0 : decode cX7_observed 0 = .ok (.aload_n 0, 1) := by decide +kernel
theorem dX7_observed_1 : decode cX7_observed 1 = .ok (.getfield 7, 3) := by decide +kernel
theorem dX7_observed_4 : decode cX7_observed 4 = .ok (.bipush 66, 2) := by decide +kernel
theorem dX7_observed_6 : decode cX7_observed 6 = .ok (.bipush 24, 2) := by decide +kernel
theorem dX7_observed_8 : decode cX7_observed 8 = .ok (.iload_n 1, 1) := by decide +kernel
theorem dX7_observed_9 : decode cX7_observed 9 = .ok (.imul, 1) := by decide +kernel
theorem dX7_observed_10 : decode cX7_observed 10 = .ok (.iadd, 1) := by decide +kernel
theorem dX7_observed_11 : decode cX7_observed 11 = .ok (.iload_n 2, 1) := by decide +kernel
theorem dX7_observed_12 : decode cX7_observed 12 = .ok (.iadd, 1) := by decide +kernel
theorem dX7_observed_13 : decode cX7_observed 13 = .ok (.iaload, 1) := by decide +kernel
theorem dX7_observed_14 : decode cX7_observed 14 = .ok (.i2f, 1) := by decide +kernel
theorem dX7_observed_15 : decode cX7_observed 15 = .ok (.aload_n 0, 1) := by decide +kernel
theorem dX7_observed_16 : decode cX7_observed 16 = .ok (.getfield 7, 3) := by decide +kernel
theorem dX7_observed_19 : decode cX7_observed 19 = .ok (.bipush 18, 2) := by decide +kernel
theorem dX7_observed_21 : decode cX7_observed 21 = .ok (.iload_n 1, 1) := by decide +kernel
theorem dX7_observed_22 : decode cX7_observed 22 = .ok (.iadd, 1) := by decide +kernel
theorem dX7_observed_23 : decode cX7_observed 23 = .ok (.iaload, 1) := by decide +kernel
theorem dX7_observed_24 : decode cX7_observed 24 = .ok (.i2f, 1) := by decide +kernel
theorem dX7_observed_25 : decode cX7_observed 25 = .ok (.fdiv, 1) := by decide +kernel
theorem dX7_observed_26 : decode cX7_observed 26 = .ok (.freturn, 1) := by decide +kernel
set_option maxRecDepth 20000 in
theorem ggX7_replaceItem_X7_isItem : GoodIn wsX7_replaceItem wsX7_isItem := goodIn_r _ [6, 1, 7, 8, 5, 9, 35, 36, 37, 38, 39, 40, 41, 42, 43, 44, 45, 46, 47, 48, 49] (by decide +kernel) (by decide +kernel)
set_option maxRecDepth 20000 in
theorem gX7_replaceItem_X7_isItem : GoodIn wsX7_replaceItem (wsV RX7 49 RX7 yX7_isItem wsX7_isItem) := goodIn_app (goodIn_of _ (by decide +kernel)) ggX7_replaceItem_X7_isItem
set_option maxRecDepth 20000 in
theorem ggX7_replaceItem_X7_isMonth : GoodIn wsX7_replaceItem wsX7_isMonth := goodIn_r _ [12, 7, 8, 5, 9] (by decide +kernel) (by decide +kernel)
set_option maxRecDepth 20000 in
theorem gX7_replaceItem_X7_isMonth : GoodIn wsX7_replaceItem (va_wsS RX7 52 yX7_isMonth wsX7_isMonth) := goodIn_app (goodIn_of _ (by decide +kernel)) ggX7_replaceItem_X7_isMonth
set_option maxRecDepth 20000 in
theorem ggX7_replaceItem_X7_takesPart : GoodIn wsX7_replaceItem wsX7_takesPart := goodIn_r _ [16, 1, 17, 18, 19, 5, 20, 35, 36, 37, 38, 39, 40, 41, 42, 43, 44, 45, 46, 47, 48, 49] (by decide +kernel) (by decide +kernel)
set_option maxRecDepth 20000 in
theorem gX7_replaceItem_X7_takesPart : GoodIn wsX7_replaceItem (wsV RX7 84 RX7 yX7_takesPart wsX7_takesPart) := goodIn_app (goodIn_of _ (by decide +kernel)) ggX7_replaceItem_X7_takesPart
set_option maxRecDepth 20000 in
theorem ggX7_replaceItem_X7_isObserved : GoodIn wsX7_replaceItem wsX7_isObserved := goodIn_r _ [24, 1, 35, 36, 37, 38, 39, 40, 41, 42, 43, 44, 45, 46, 47, 48, 49] (by decide +kernel) (by decide +kernel)
set_option maxRecDepth 20000 in
theorem gX7_replaceItem_X7_isObserved : GoodIn wsX7_replaceItem (wsV RX7 87 RX7 yX7_isObserved wsX7_isObserved) := goodIn_app (goodIn_of _ (by decide +kernel)) ggX7_replaceItem_X7_isObserved
set_option maxRecDepth 20000 in
theorem ggX7_replaceItem_X7_edit : GoodIn wsX7_replaceItem wsX7_edit := goodIn_r _ [28, 29, 30, 1, 35, 36, 37, 38, 39, 40, 41, 42, 43, 44, 45, 46, 47, 48, 49] (by decide +kernel) (by decide +kernel)
set_option maxRecDepth 20000 in
theorem gX7_replaceItem_X7_edit : GoodIn wsX7_replaceItem (wsV RX7 46 RX7 yX7_edit wsX7_edit) := goodIn_app (goodIn_of _ (by decide +kernel)) ggX7_replaceItem_X7_edit
set_option maxRecDepth 20000 in
theorem ggX7_replaceItem_X7_replacements : GoodIn wsX7_replaceItem wsX7_replacements := goodIn_r _ [34, 1, 35, 36, 37, 38, 39, 40, 41, 42, 43, 44, 45, 46, 47, 48, 49] (by decide +kernel) (by decide +kernel)
set_option maxRecDepth 20000 in
theorem gX7_replaceItem_X7_replacements : GoodIn wsX7_replaceItem (wsV RX7 91 RX7 yX7_replacements wsX7_replacements) := goodIn_app (goodIn_of _ (by decide +kernel)) ggX7_replaceItem_X7_replacements
theorem dX7_replaceItem_0 : decode cX7_replaceItem 0 = .ok (.aload_n 0, 1) := by decide +kernel
theorem dX7_replaceItem_1 : decode cX7_replaceItem 1 = .ok (.iload_n 1, 1) := by decide +kernel
theorem dX7_replaceItem_2 : decode cX7_replaceItem 2 = .ok (.invokevirtual 49, 3) := by decide +kernel
theorem dX7_replaceItem_5 : decode cX7_replaceItem 5 = .ok (.ifCond .eq 23, 3) := by decide +kernel
theorem dX7_replaceItem_8 : decode cX7_replaceItem 8 = .ok (.aload_n 0, 1) := by decide +kernel
theorem dX7_replaceItem_9 : decode cX7_replaceItem 9 = .ok (.iload_n 2, 1) := by decide +kernel
theorem dX7_replaceItem_10 : decode cX7_replaceItem 10 = .ok (.invokevirtual 49, 3) := by decide +kernel
theorem dX7_replaceItem_13 : decode cX7_replaceItem 13 = .ok (.ifCond .eq 15, 3) := by decide +kernel
theorem dX7_replaceItem_16 : decode cX7_replaceItem 16 = .ok (.iload_n 1, 1) := by decide +kernel
theorem dX7_replaceItem_17 : decode cX7_replaceItem 17 = .ok (.iload_n 2, 1) := by decide +kernel
theorem dX7_replaceItem_18 : decode cX7_replaceItem 18 = .ok (.if_icmp .eq 10, 3) := by decide +kernel
theorem dX7_replaceItem_21 : decode cX7_replaceItem 21 = .ok (.iload_n 3, 1) := by decide +kernel
theorem dX7_replaceItem_22 : decode cX7_replaceItem 22 = .ok (.invokestatic 52, 3) := by decide +kernel
theorem dX7_replaceItem_25 : decode cX7_replaceItem 25 = .ok (.ifCond .ne 5, 3) := by decide +kernel
theorem dX7_replaceItem_28 : decode cX7_replaceItem 28 = .ok (.iconst (-1), 1) := by decide +kernel
theorem dX7_replaceItem_29 : decode cX7_replaceItem 29 = .ok (.ireturn, 1) := by decide +kernel
theorem dX7_replaceItem_30 : decode cX7_replaceItem 30 = .ok (.aload_n 0, 1) := by decide +kernel
theorem dX7_replaceItem_31 : decode cX7_replaceItem 31 = .ok (.getfield 7, 3) := by decide +kernel
theorem dX7_replaceItem_34 : decode cX7_replaceItem 34 = .ok (.bipush 6, 2) := by decide +kernel
theorem dX7_replaceItem_36 : decode cX7_replaceItem 36 = .ok (.iload_n 1, 1) := by decide +kernel
theorem dX7_replaceItem_37 : decode cX7_replaceItem 37 = .ok (.iadd, 1) := by decide +kernel
theorem dX7_replaceItem_38 : decode cX7_replaceItem 38 = .ok (.iaload, 1) := by decide +kernel
theorem dX7_replaceItem_39 : decode cX7_replaceItem 39 = .ok (.aload_n 0, 1) := by decide +kernel
theorem dX7_replaceItem_40 : decode cX7_replaceItem 40 = .ok (.getfield 7, 3) := by decide +kernel
theorem dX7_replaceItem_43 : decode cX7_replaceItem 43 = .ok (.bipush 6, 2) := by decide +kernel
theorem dX7_replaceItem_45 : decode cX7_replaceItem 45 = .ok (.iload_n 2, 1) := by decide +kernel
theorem dX7_replaceItem_46 : decode cX7_replaceItem 46 = .ok (.iadd, 1) := by decide +kernel
theorem dX7_replaceItem_47 : decode cX7_replaceItem 47 = .ok (.iaload, 1) := by decide +kernel
theorem dX7_replaceItem_48 : decode cX7_replaceItem 48 = .ok (.if_icmp .ne 37, 3) := by decide +kernel
theorem dX7_replaceItem_51 : decode cX7_replaceItem 51 = .ok (.aload_n 0, 1) := by decide +kernel
theorem dX7_replaceItem_52 : decode cX7_replaceItem 52 = .ok (.iload_n 1, 1) := by decide +kernel
theorem dX7_replaceItem_53 : decode cX7_replaceItem 53 = .ok (.invokevirtual 84, 3) := by decide +kernel
theorem dX7_replaceItem_56 : decode cX7_replaceItem 56 = .ok (.ifCond .ne 29, 3) := by decide +kernel
theorem dX7_replaceItem_59 : decode cX7_replaceItem 59 = .ok (.aload_n 0, 1) := by decide +kernel
theorem dX7_replaceItem_60 : decode cX7_replaceItem 60 = .ok (.iload_n 2, 1) := by decide +kernel
theorem dX7_replaceItem_61 : decode cX7_replaceItem 61 = .ok (.invokevirtual 84, 3) := by decide +kernel
theorem dX7_replaceItem_64 : decode cX7_replaceItem 64 = .ok (.ifCond .ne 21, 3) := by decide +kernel
theorem dX7_replaceItem_67 : decode cX7_replaceItem 67 = .ok (.aload_n 0, 1) := by decide +kernel
theorem dX7_replaceItem_68 : decode cX7_replaceItem 68 = .ok (.iload_n 1, 1) := by decide +kernel
theorem dX7_replaceItem_69 : decode cX7_replaceItem 69 = .ok (.iload_n 3, 1) := by decide +kernel
theorem dX7_replaceItem_70 : decode cX7_replaceItem 70 = .ok (.invokevirtual 87, 3) := by decide +kernel
theorem dX7_replaceItem_73 : decode cX7_replaceItem 73 = .ok (.ifCond .eq 12, 3) := by decide +kernel
theorem dX7_replaceItem_76 : decode cX7_replaceItem 76 = .ok (.aload_n 0, 1) := by decide +kernel
theorem dX7_replaceItem_77 : decode cX7_replaceItem 77 = .ok (.iload_n 2, 1) := by decide +kernel
theorem dX7_replaceItem_78 : decode cX7_replaceItem 78 = .ok (.iload_n 3, 1) := by decide +kernel
theorem dX7_replaceItem_79 : decode cX7_replaceItem 79 = .ok (.invokevirtual 87, 3) := by decide +kernel
theorem dX7_replaceItem_82 : decode cX7_replaceItem 82 = .ok (.ifCond .ne 6, 3) := by decide +kernel
theorem dX7_replaceItem_85 : decode cX7_replaceItem 85 = .ok (.bipush (-2), 2) := by decide +kernel
theorem dX7_replaceItem_87 : decode cX7_replaceItem 87 = .ok (.ireturn, 1) := by decide +kernel
theorem dX7_replaceItem_88 : decode cX7_replaceItem 88 = .ok (.aload_n 0, 1) := by decide +kernel
theorem dX7_replaceItem_89 : decode cX7_replaceItem 89 = .ok (.invokevirtual 46, 3) := by decide +kernel
theorem dX7_replaceItem_92 : decode cX7_replaceItem 92 = .ok (.aload_n 0, 1) := by decide +kernel
theorem dX7_replaceItem_93 : decode cX7_replaceItem 93 = .ok (.getfield 7, 3) := by decide +kernel
theorem dX7_replaceItem_96 : decode cX7_replaceItem 96 = .ok (.bipush 42, 2) := by decide +kernel
theorem dX7_replaceItem_98 : decode cX7_replaceItem 98 = .ok (.iload_n 1, 1) := by decide +kernel
theorem dX7_replaceItem_99 : decode cX7_replaceItem 99 = .ok (.iadd, 1) := by decide +kernel
theorem dX7_replaceItem_100 : decode cX7_replaceItem 100 = .ok (.iload_n 2, 1) := by decide +kernel
theorem dX7_replaceItem_101 : decode cX7_replaceItem 101 = .ok (.iastore, 1) := by decide +kernel
theorem dX7_replaceItem_102 : decode cX7_replaceItem 102 = .ok (.aload_n 0, 1) := by decide +kernel
theorem dX7_replaceItem_103 : decode cX7_replaceItem 103 = .ok (.getfield 7, 3) := by decide +kernel
theorem dX7_replaceItem_106 : decode cX7_replaceItem 106 = .ok (.bipush 54, 2) := by decide +kernel
theorem dX7_replaceItem_108 : decode cX7_replaceItem 108 = .ok (.iload_n 1, 1) := by decide +kernel
theorem dX7_replaceItem_109 : decode cX7_replaceItem 109 = .ok (.iadd, 1) := by decide +kernel
theorem dX7_replaceItem_110 : decode cX7_replaceItem 110 = .ok (.iload_n 3, 1) := by decide +kernel
theorem dX7_replaceItem_111 : decode cX7_replaceItem 111 = .ok (.iastore, 1) := by decide +kernel
theorem dX7_replaceItem_112 : decode cX7_replaceItem 112 = .ok (.aload_n 0, 1) := by decide +kernel
theorem dX7_replaceItem_113 : decode cX7_replaceItem 113 = .ok (.invokevirtual 91, 3) := by decide +kernel
theorem dX7_replaceItem_116 : decode cX7_replaceItem 116 = .ok (.ireturn, 1) := by decide +kernel
set_option maxRecDepth 20000 in
theorem ggX7_endReplacement_X7_isItem : GoodIn wsX7_endReplacement wsX7_isItem := goodIn_r _ [6, 1, 7, 8, 5, 9, 28, 29, 30, 31, 32, 33, 34, 35, 36, 37, 38, 39, 40, 41, 42] (by decide +kernel) (by decide +kernel)
set_option maxRecDepth 20000 in
theorem gX7_endReplacement_X7_isItem : GoodIn wsX7_endReplacement (wsV RX7 49 RX7 yX7_isItem wsX7_isItem) := goodIn_app (goodIn_of _ (by decide +kernel)) ggX7_endReplacement_X7_isItem
set_option maxRecDepth 20000 in
theorem ggX7_endReplacement_X7_takesPart : GoodIn wsX7_endReplacement wsX7_takesPart := goodIn_r _ [13, 1, 14, 15, 16, 5, 17, 28, 29, 30, 31, 32, 33, 34, 35, 36, 37, 38, 39, 40, 41, 42] (by decide +kernel) (by decide +kernel)
set_option maxRecDepth 20000 in
theorem gX7_endReplacement_X7_takesPart : GoodIn wsX7_endReplacement (wsV RX7 84 RX7 yX7_takesPart wsX7_takesPart) := goodIn_app (goodIn_of _ (by decide +kernel)) ggX7_endReplacement_X7_takesPart
set_option maxRecDepth 20000 in
theorem ggX7_endReplacement_X7_edit : GoodIn wsX7_endReplacement wsX7_edit := goodIn_r _ [21, 22, 23, 1, 28, 29, 30, 31, 32, 33, 34, 35, 36, 37, 38, 39, 40, 41, 42] (by decide +kernel) (by decide +kernel)
set_option maxRecDepth 20000 in
theorem gX7_endReplacement_X7_edit : GoodIn wsX7_endReplacement (wsV RX7 46 RX7 yX7_edit wsX7_edit) := goodIn_app (goodIn_of _ (by decide +kernel)) ggX7_endReplacement_X7_edit
set_option maxRecDepth 20000 in
theorem ggX7_endReplacement_X7_oldOf : GoodIn wsX7_endReplacement wsX7_oldOf := goodIn_r _ [17, 1, 28, 29, 30, 31, 32, 33, 34, 35, 36, 37, 38, 39, 40, 41, 42] (by decide +kernel) (by decide +kernel)
set_option maxRecDepth 20000 in
theorem gX7_endReplacement_X7_oldOf : GoodIn wsX7_endReplacement (wsV RX7 81 RX7 yX7_oldOf wsX7_oldOf) := goodIn_app (goodIn_of _ (by decide +kernel)) ggX7_endReplacement_X7_oldOf
set_option maxRecDepth 20000 in
theorem ggX7_endReplacement_X7_replacements : GoodIn wsX7_endReplacement wsX7_replacements := goodIn_r _ [27, 1, 28, 29, 30, 31, 32, 33, 34, 35, 36, 37, 38, 39, 40, 41, 42] (by decide +kernel) (by decide +kernel)
set_option maxRecDepth 20000 in
theorem gX7_endReplacement_X7_replacements : GoodIn wsX7_endReplacement (wsV RX7 91 RX7 yX7_replacements wsX7_replacements) := goodIn_app (goodIn_of _ (by decide +kernel)) ggX7_endReplacement_X7_replacements
