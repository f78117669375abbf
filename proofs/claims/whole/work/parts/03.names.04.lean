theorem dX8_minds_58 : decode cX8_minds 58 = .ok (.bipush 6, 2) := by decide +kernel
theorem dX8_minds_60 : decode cX8_minds 60 = .ok (.if_icmp .ge 100, 3) := by decide +kernel
theorem dX8_minds_63 : decode cX8_minds 63 = .ok (.iconst 0, 1) := by decide +kernel
theorem dX8_minds_64 : decode cX8_minds 64 = .ok (.istore 7, 2) := by decide +kernel
theorem dX8_minds_66 : decode cX8_minds 66 = .ok (.iload 7, 2) := by decide +kernel
theorem dX8_minds_68 : decode cX8_minds 68 = .ok (.bipush 16, 2) := by decide +kernel
theorem dX8_minds_70 : decode cX8_minds 70 = .ok (.if_icmp .ge 84, 3) := by decide +kernel
theorem dX8_minds_73 : decode cX8_minds 73 = .ok (.bipush (-2), 2) := by decide +kernel
theorem dX8_minds_75 : decode cX8_minds 75 = .ok (.istore 8, 2) := by decide +kernel
theorem dX8_minds_77 : decode cX8_minds 77 = .ok (.iload 8, 2) := by decide +kernel
theorem dX8_minds_79 : decode cX8_minds 79 = .ok (.iconst 2, 1) := by decide +kernel
theorem dX8_minds_80 : decode cX8_minds 80 = .ok (.if_icmp .gt 68, 3) := by decide +kernel
theorem dX8_minds_83 : decode cX8_minds 83 = .ok (.aload_n 0, 1) := by decide +kernel
theorem dX8_minds_84 : decode cX8_minds 84 = .ok (.aload_n 3, 1) := by decide +kernel
theorem dX8_minds_85 : decode cX8_minds 85 = .ok (.iload 5, 2) := by decide +kernel
theorem dX8_minds_87 : decode cX8_minds 87 = .ok (.iload 6, 2) := by decide +kernel
theorem dX8_minds_89 : decode cX8_minds 89 = .ok (.iload 7, 2) := by decide +kernel
theorem dX8_minds_91 : decode cX8_minds 91 = .ok (.iload 8, 2) := by decide +kernel
theorem dX8_minds_93 : decode cX8_minds 93 = .ok (.invokevirtual 267, 3) := by decide +kernel
theorem dX8_minds_96 : decode cX8_minds 96 = .ok (.ifCond .eq 46, 3) := by decide +kernel
theorem dX8_minds_99 : decode cX8_minds 99 = .ok (.iload_n 2, 1) := by decide +kernel
theorem dX8_minds_100 : decode cX8_minds 100 = .ok (.iconst 1, 1) := by decide +kernel
theorem dX8_minds_101 : decode cX8_minds 101 = .ok (.if_icmp .ne 38, 3) := by decide +kernel
theorem dX8_minds_104 : decode cX8_minds 104 = .ok (.sipush 10000, 3) := by decide +kernel
theorem dX8_minds_107 : decode cX8_minds 107 = .ok (.iload 5, 2) := by decide +kernel
theorem dX8_minds_109 : decode cX8_minds 109 = .ok (.imul, 1) := by decide +kernel
theorem dX8_minds_110 : decode cX8_minds 110 = .ok (.sipush 1000, 3) := by decide +kernel
theorem dX8_minds_113 : decode cX8_minds 113 = .ok (.iload 6, 2) := by decide +kernel
theorem dX8_minds_115 : decode cX8_minds 115 = .ok (.imul, 1) := by decide +kernel
theorem dX8_minds_116 : decode cX8_minds 116 = .ok (.iadd, 1) := by decide +kernel
theorem dX8_minds_117 : decode cX8_minds 117 = .ok (.bipush 100, 2) := by decide +kernel
theorem dX8_minds_119 : decode cX8_minds 119 = .ok (.iload 7, 2) := by decide +kernel
theorem dX8_minds_121 : decode cX8_minds 121 = .ok (.iconst 4, 1) := by decide +kernel
theorem dX8_minds_122 : decode cX8_minds 122 = .ok (.idiv, 1) := by decide +kernel
theorem dX8_minds_123 : decode cX8_minds 123 = .ok (.imul, 1) := by decide +kernel
theorem dX8_minds_124 : decode cX8_minds 124 = .ok (.iadd, 1) := by decide +kernel
theorem dX8_minds_125 : decode cX8_minds 125 = .ok (.bipush 10, 2) := by decide +kernel
theorem dX8_minds_127 : decode cX8_minds 127 = .ok (.iload 7, 2) := by decide +kernel
theorem dX8_minds_129 : decode cX8_minds 129 = .ok (.iconst 4, 1) := by decide +kernel
theorem dX8_minds_130 : decode cX8_minds 130 = .ok (.irem, 1) := by decide +kernel
theorem dX8_minds_131 : decode cX8_minds 131 = .ok (.imul, 1) := by decide +kernel
theorem dX8_minds_132 : decode cX8_minds 132 = .ok (.iadd, 1) := by decide +kernel
theorem dX8_minds_133 : decode cX8_minds 133 = .ok (.iload 8, 2) := by decide +kernel
theorem dX8_minds_135 : decode cX8_minds 135 = .ok (.iadd, 1) := by decide +kernel
theorem dX8_minds_136 : decode cX8_minds 136 = .ok (.iconst 2, 1) := by decide +kernel
theorem dX8_minds_137 : decode cX8_minds 137 = .ok (.iadd, 1) := by decide +kernel
theorem dX8_minds_138 : decode cX8_minds 138 = .ok (.ireturn, 1) := by decide +kernel
theorem dX8_minds_139 : decode cX8_minds 139 = .ok (.iinc 4 1, 3) := by decide +kernel
theorem dX8_minds_142 : decode cX8_minds 142 = .ok (.iinc 8 1, 3) := by decide +kernel
theorem dX8_minds_145 : decode cX8_minds 145 = .ok (.goto (-68), 3) := by decide +kernel
theorem dX8_minds_148 : decode cX8_minds 148 = .ok (.iinc 7 1, 3) := by decide +kernel
theorem dX8_minds_151 : decode cX8_minds 151 = .ok (.goto (-85), 3) := by decide +kernel
theorem dX8_minds_154 : decode cX8_minds 154 = .ok (.iinc 6 1, 3) := by decide +kernel
theorem dX8_minds_157 : decode cX8_minds 157 = .ok (.goto (-101), 3) := by decide +kernel
theorem dX8_minds_160 : decode cX8_minds 160 = .ok (.iinc 5 1, 3) := by decide +kernel
theorem dX8_minds_163 : decode cX8_minds 163 = .ok (.goto (-120), 3) := by decide +kernel
theorem dX8_minds_166 : decode cX8_minds 166 = .ok (.iload_n 2, 1) := by decide +kernel
theorem dX8_minds_167 : decode cX8_minds 167 = .ok (.iconst 1, 1) := by decide +kernel
theorem dX8_minds_168 : decode cX8_minds 168 = .ok (.if_icmp .ne 11, 3) := by decide +kernel
theorem dX8_minds_171 : decode cX8_minds 171 = .ok (.aload_n 0, 1) := by decide +kernel
theorem dX8_minds_172 : decode cX8_minds 172 = .ok (.iconst 2, 1) := by decide +kernel
theorem dX8_minds_173 : decode cX8_minds 173 = .ok (.invokevirtual 79, 3) := by decide +kernel
theorem dX8_minds_176 : decode cX8_minds 176 = .ok (.goto 5, 3) := by decide +kernel
theorem dX8_minds_179 : decode cX8_minds 179 = .ok (.iload 4, 2) := by decide +kernel
theorem dX8_minds_181 : decode cX8_minds 181 = .ok (.ireturn, 1) := by decide +kernel
set_option maxRecDepth 20000 in
theorem ggX8_heirs_X8_isOutside : GoodIn wsX8_heirs wsX8_isOutside := goodIn_r _ [5] (by decide +kernel) (by decide +kernel)
set_option maxRecDepth 20000 in
theorem gX8_heirs_X8_isOutside : GoodIn wsX8_heirs (va_wsS RX8 87 yX8_isOutside wsX8_isOutside) := goodIn_app (goodIn_of _ (by decide +kernel)) ggX8_heirs_X8_isOutside
set_option maxRecDepth 20000 in
theorem ggX8_heirs_X8_isPart : GoodIn wsX8_heirs wsX8_isPart := goodIn_r _ [8, 2, 3, 4, 5] (by decide +kernel) (by decide +kernel)
set_option maxRecDepth 20000 in
theorem gX8_heirs_X8_isPart : GoodIn wsX8_heirs (va_wsS RX8 115 yX8_isPart wsX8_isPart) := goodIn_app (goodIn_of _ (by decide +kernel)) ggX8_heirs_X8_isPart
set_option maxRecDepth 20000 in
theorem ggX8_heirs_X8_refuse : GoodIn wsX8_heirs wsX8_refuse := goodIn_r _ [12, 13, 14, 28, 29, 30, 31, 32, 33, 34, 35, 36, 37, 38] (by decide +kernel) (by decide +kernel)
set_option maxRecDepth 20000 in
theorem gX8_heirs_X8_refuse : GoodIn wsX8_heirs (wsV RX8 79 RX8 yX8_refuse wsX8_refuse) := goodIn_app (goodIn_of _ (by decide +kernel)) ggX8_heirs_X8_refuse
set_option maxRecDepth 20000 in
theorem ggX8_heirs_X8_power : GoodIn wsX8_heirs wsX8_power := goodIn_r _ [17] (by decide +kernel) (by decide +kernel)
set_option maxRecDepth 20000 in
theorem gX8_heirs_X8_power : GoodIn wsX8_heirs (va_wsS RX8 271 yX8_power wsX8_power) := goodIn_app (goodIn_of _ (by decide +kernel)) ggX8_heirs_X8_power
set_option maxRecDepth 20000 in
theorem ggX8_heirs_X8_lowest : GoodIn wsX8_heirs wsX8_lowest := goodIn_r _ [20, 21, 22, 23, 24, 25, 26, 27] (by decide +kernel) (by decide +kernel)
set_option maxRecDepth 20000 in
theorem gX8_heirs_X8_lowest : GoodIn wsX8_heirs (va_wsS RX8 277 yX8_lowest wsX8_lowest) := goodIn_app (goodIn_of _ (by decide +kernel)) ggX8_heirs_X8_lowest
theorem dX8_heirs_0 : decode cX8_heirs 0 = .ok (.iload_n 1, 1) := by decide +kernel
theorem dX8_heirs_1 : decode cX8_heirs 1 = .ok (.iconst 0, 1) := by decide +kernel
theorem dX8_heirs_2 : decode cX8_heirs 2 = .ok (.bipush 8, 2) := by decide +kernel
theorem dX8_heirs_4 : decode cX8_heirs 4 = .ok (.invokestatic 87, 3) := by decide +kernel
theorem dX8_heirs_7 : decode cX8_heirs 7 = .ok (.ifCond .ne 21, 3) := by decide +kernel
theorem dX8_heirs_10 : decode cX8_heirs 10 = .ok (.iload_n 2, 1) := by decide +kernel
theorem dX8_heirs_11 : decode cX8_heirs 11 = .ok (.bipush 6, 2) := by decide +kernel
theorem dX8_heirs_13 : decode cX8_heirs 13 = .ok (.invokestatic 115, 3) := by decide +kernel
theorem dX8_heirs_16 : decode cX8_heirs 16 = .ok (.ifCond .eq 12, 3) := by decide +kernel
theorem dX8_heirs_19 : decode cX8_heirs 19 = .ok (.iload_n 3, 1) := by decide +kernel
theorem dX8_heirs_20 : decode cX8_heirs 20 = .ok (.iconst 0, 1) := by decide +kernel
theorem dX8_heirs_21 : decode cX8_heirs 21 = .ok (.iconst 1, 1) := by decide +kernel
theorem dX8_heirs_22 : decode cX8_heirs 22 = .ok (.invokestatic 87, 3) := by decide +kernel
theorem dX8_heirs_25 : decode cX8_heirs 25 = .ok (.ifCond .eq 10, 3) := by decide +kernel
theorem dX8_heirs_28 : decode cX8_heirs 28 = .ok (.aload_n 0, 1) := by decide +kernel
theorem dX8_heirs_29 : decode cX8_heirs 29 = .ok (.iconst 1, 1) := by decide +kernel
theorem dX8_heirs_30 : decode cX8_heirs 30 = .ok (.invokevirtual 79, 3) := by decide +kernel
theorem dX8_heirs_33 : decode cX8_heirs 33 = .ok (.i2l, 1) := by decide +kernel
theorem dX8_heirs_34 : decode cX8_heirs 34 = .ok (.lreturn, 1) := by decide +kernel
theorem dX8_heirs_35 : decode cX8_heirs 35 = .ok (.iload_n 2, 1) := by decide +kernel
theorem dX8_heirs_36 : decode cX8_heirs 36 = .ok (.bipush 10, 2) := by decide +kernel
theorem dX8_heirs_38 : decode cX8_heirs 38 = .ok (.idiv, 1) := by decide +kernel
theorem dX8_heirs_39 : decode cX8_heirs 39 = .ok (.istore 4, 2) := by decide +kernel
theorem dX8_heirs_41 : decode cX8_heirs 41 = .ok (.iload_n 2, 1) := by decide +kernel
theorem dX8_heirs_42 : decode cX8_heirs 42 = .ok (.bipush 10, 2) := by decide +kernel
theorem dX8_heirs_44 : decode cX8_heirs 44 = .ok (.irem, 1) := by decide +kernel
theorem dX8_heirs_45 : decode cX8_heirs 45 = .ok (.istore 5, 2) := by decide +kernel
theorem dX8_heirs_47 : decode cX8_heirs 47 = .ok (.iload 5, 2) := by decide +kernel
theorem dX8_heirs_49 : decode cX8_heirs 49 = .ok (.i2l, 1) := by decide +kernel
theorem dX8_heirs_50 : decode cX8_heirs 50 = .ok (.iload_n 1, 1) := by decide +kernel
theorem dX8_heirs_51 : decode cX8_heirs 51 = .ok (.invokestatic 271, 3) := by decide +kernel
theorem dX8_heirs_54 : decode cX8_heirs 54 = .ok (.lstore 6, 2) := by decide +kernel
theorem dX8_heirs_56 : decode cX8_heirs 56 = .ok (.iload 5, 2) := by decide +kernel
theorem dX8_heirs_58 : decode cX8_heirs 58 = .ok (.iconst 2, 1) := by decide +kernel
theorem dX8_heirs_59 : decode cX8_heirs 59 = .ok (.iload 4, 2) := by decide +kernel
theorem dX8_heirs_61 : decode cX8_heirs 61 = .ok (.imul, 1) := by decide +kernel
theorem dX8_heirs_62 : decode cX8_heirs 62 = .ok (.isub, 1) := by decide +kernel
theorem dX8_heirs_63 : decode cX8_heirs 63 = .ok (.i2l, 1) := by decide +kernel
theorem dX8_heirs_64 : decode cX8_heirs 64 = .ok (.iload_n 1, 1) := by decide +kernel
theorem dX8_heirs_65 : decode cX8_heirs 65 = .ok (.invokestatic 271, 3) := by decide +kernel
theorem dX8_heirs_68 : decode cX8_heirs 68 = .ok (.lstore 8, 2) := by decide +kernel
theorem dX8_heirs_70 : decode cX8_heirs 70 = .ok (.lload 6, 2) := by decide +kernel
theorem dX8_heirs_72 : decode cX8_heirs 72 = .ok (.lload 8, 2) := by decide +kernel
theorem dX8_heirs_74 : decode cX8_heirs 74 = .ok (.ladd, 1) := by decide +kernel
theorem dX8_heirs_75 : decode cX8_heirs 75 = .ok (.ldc2_w 275, 3) := by decide +kernel
theorem dX8_heirs_78 : decode cX8_heirs 78 = .ok (.lload 6, 2) := by decide +kernel
theorem dX8_heirs_80 : decode cX8_heirs 80 = .ok (.lmul, 1) := by decide +kernel
theorem dX8_heirs_81 : decode cX8_heirs 81 = .ok (.iload_n 3, 1) := by decide +kernel
theorem dX8_heirs_82 : decode cX8_heirs 82 = .ok (.invokestatic 277, 3) := by decide +kernel
theorem dX8_heirs_85 : decode cX8_heirs 85 = .ok (.lreturn, 1) := by decide +kernel
set_option maxRecDepth 20000 in
theorem ggX8_goods_X8_isPair : GoodIn wsX8_goods wsX8_isPair := goodIn_r _ [9, 10, 11, 12, 8, 13, 14, 15, 16, 17, 2, 3, 18, 19, 20, 21, 35, 36, 37, 38, 39, 40, 41, 42, 43, 44, 45, 46, 47, 48, 49, 50, 51, 52, 53, 54, 55, 56, 57, 58, 59, 60, 61, 62, 63, 64, 65] (by decide +kernel) (by decide +kernel)
set_option maxRecDepth 20000 in
theorem gX8_goods_X8_isPair : GoodIn wsX8_goods (wsV RX8 237 RX8 yX8_isPair wsX8_isPair) := goodIn_app (goodIn_of _ (by decide +kernel)) ggX8_goods_X8_isPair
set_option maxRecDepth 20000 in
theorem ggX8_goods_X8_isOutside : GoodIn wsX8_goods wsX8_isOutside := goodIn_r _ [21] (by decide +kernel) (by decide +kernel)
set_option maxRecDepth 20000 in
theorem gX8_goods_X8_isOutside : GoodIn wsX8_goods (va_wsS RX8 87 yX8_isOutside wsX8_isOutside) := goodIn_app (goodIn_of _ (by decide +kernel)) ggX8_goods_X8_isOutside
set_option maxRecDepth 20000 in
theorem ggX8_goods_X8_refuse : GoodIn wsX8_goods wsX8_refuse := goodIn_r _ [25, 26, 27, 35, 36, 37, 38, 39, 40, 41, 42, 43, 44, 45] (by decide +kernel) (by decide +kernel)
set_option maxRecDepth 20000 in
theorem gX8_goods_X8_refuse : GoodIn wsX8_goods (wsV RX8 79 RX8 yX8_refuse wsX8_refuse) := goodIn_app (goodIn_of _ (by decide +kernel)) ggX8_goods_X8_refuse
set_option maxRecDepth 20000 in
theorem ggX8_goods_X2_years : GoodIn wsX8_goods wsX2_years := goodIn_r _ [32, 33, 34, 63, 64, 65] (by decide +kernel) (by decide +kernel)
set_option maxRecDepth 20000 in
theorem gX8_goods_X2_years : GoodIn wsX8_goods (wsV RX8 99 RX2 yX2_years wsX2_years) := goodIn_app (goodIn_of _ (by decide +kernel)) ggX8_goods_X2_years
theorem dX8_goods_0 : decode cX8_goods 0 = .ok (.aload_n 0, 1) := by decide +kernel
theorem dX8_goods_1 : decode cX8_goods 1 = .ok (.iload_n 1, 1) := by decide +kernel
theorem dX8_goods_2 : decode cX8_goods 2 = .ok (.invokevirtual 237, 3) := by decide +kernel
theorem dX8_goods_5 : decode cX8_goods 5 = .ok (.ifCond .eq 24, 3) := by decide +kernel
theorem dX8_goods_8 : decode cX8_goods 8 = .ok (.iload_n 2, 1) := by decide +kernel
theorem dX8_goods_9 : decode cX8_goods 9 = .ok (.iconst 0, 1) := by decide +kernel
theorem dX8_goods_10 : decode cX8_goods 10 = .ok (.ldc_w 281, 3) := by decide +kernel
theorem dX8_goods_13 : decode cX8_goods 13 = .ok (.invokestatic 87, 3) := by decide +kernel
theorem dX8_goods_16 : decode cX8_goods 16 = .ok (.ifCond .ne 13, 3) := by decide +kernel
theorem dX8_goods_19 : decode cX8_goods 19 = .ok (.iload_n 3, 1) := by decide +kernel
theorem dX8_goods_20 : decode cX8_goods 20 = .ok (.iconst 0, 1) := by decide +kernel
theorem dX8_goods_21 : decode cX8_goods 21 = .ok (.bipush 99, 2) := by decide +kernel
theorem dX8_goods_23 : decode cX8_goods 23 = .ok (.invokestatic 87, 3) := by decide +kernel
theorem dX8_goods_26 : decode cX8_goods 26 = .ok (.ifCond .eq 9, 3) := by decide +kernel
theorem dX8_goods_29 : decode cX8_goods 29 = .ok (.aload_n 0, 1) := by decide +kernel
theorem dX8_goods_30 : decode cX8_goods 30 = .ok (.iconst 1, 1) := by decide +kernel
theorem dX8_goods_31 : decode cX8_goods 31 = .ok (.invokevirtual 79, 3) := by decide +kernel
theorem dX8_goods_34 : decode cX8_goods 34 = .ok (.ireturn, 1) := by decide +kernel
theorem dX8_goods_35 : decode cX8_goods 35 = .ok (.aload_n 0, 1) := by decide +kernel
theorem dX8_goods_36 : decode cX8_goods 36 = .ok (.getfield 16, 3) := by decide +kernel
theorem dX8_goods_39 : decode cX8_goods 39 = .ok (.getfield 70, 3) := by decide +kernel
theorem dX8_goods_42 : decode cX8_goods 42 = .ok (.iload_n 1, 1) := by decide +kernel
theorem dX8_goods_43 : decode cX8_goods 43 = .ok (.bipush 10, 2) := by decide +kernel
theorem dX8_goods_45 : decode cX8_goods 45 = .ok (.idiv, 1) := by decide +kernel
theorem dX8_goods_46 : decode cX8_goods 46 = .ok (.iload_n 1, 1) := by decide +kernel
theorem dX8_goods_47 : decode cX8_goods 47 = .ok (.bipush 10, 2) := by decide +kernel
theorem dX8_goods_49 : decode cX8_goods 49 = .ok (.irem, 1) := by decide +kernel
theorem dX8_goods_50 : decode cX8_goods 50 = .ok (.invokevirtual 99, 3) := by decide +kernel
theorem dX8_goods_53 : decode cX8_goods 53 = .ok (.istore 4, 2) := by decide +kernel
theorem dX8_goods_55 : decode cX8_goods 55 = .ok (.iload 4, 2) := by decide +kernel
theorem dX8_goods_57 : decode cX8_goods 57 = .ok (.ifCond .ge 9, 3) := by decide +kernel
theorem dX8_goods_60 : decode cX8_goods 60 = .ok (.aload_n 0, 1) := by decide +kernel
theorem dX8_goods_61 : decode cX8_goods 61 = .ok (.iconst 2, 1) := by decide +kernel
theorem dX8_goods_62 : decode cX8_goods 62 = .ok (.invokevirtual 79, 3) := by decide +kernel
theorem dX8_goods_65 : decode cX8_goods 65 = .ok (.ireturn, 1) := by decide +kernel
theorem dX8_goods_66 : decode cX8_goods 66 = .ok (.iload_n 2, 1) := by decide +kernel
theorem dX8_goods_67 : decode cX8_goods 67 = .ok (.istore 5, 2) := by decide +kernel
theorem dX8_goods_69 : decode cX8_goods 69 = .ok (.iconst 0, 1) := by decide +kernel
theorem dX8_goods_70 : decode cX8_goods 70 = .ok (.istore 6, 2) := by decide +kernel
theorem dX8_goods_72 : decode cX8_goods 72 = .ok (.iload 6, 2) := by decide +kernel
theorem dX8_goods_74 : decode cX8_goods 74 = .ok (.iload 4, 2) := by decide +kernel
theorem dX8_goods_76 : decode cX8_goods 76 = .ok (.aload_n 0, 1) := by decide +kernel
theorem dX8_goods_77 : decode cX8_goods 77 = .ok (.getfield 16, 3) := by decide +kernel
theorem dX8_goods_80 : decode cX8_goods 80 = .ok (.getfield 112, 3) := by decide +kernel
theorem dX8_goods_83 : decode cX8_goods 83 = .ok (.imul, 1) := by decide +kernel
theorem dX8_goods_84 : decode cX8_goods 84 = .ok (.if_icmp .ge 21, 3) := by decide +kernel
theorem dX8_goods_87 : decode cX8_goods 87 = .ok (.iload 5, 2) := by decide +kernel
theorem dX8_goods_89 : decode cX8_goods 89 = .ok (.iload 5, 2) := by decide +kernel
theorem dX8_goods_91 : decode cX8_goods 91 = .ok (.iload_n 3, 1) := by decide +kernel
theorem dX8_goods_92 : decode cX8_goods 92 = .ok (.imul, 1) := by decide +kernel
theorem dX8_goods_93 : decode cX8_goods 93 = .ok (.bipush 100, 2) := by decide +kernel
theorem dX8_goods_95 : decode cX8_goods 95 = .ok (.idiv, 1) := by decide +kernel
theorem dX8_goods_96 : decode cX8_goods 96 = .ok (.isub, 1) := by decide +kernel
theorem dX8_goods_97 : decode cX8_goods 97 = .ok (.istore 5, 2) := by decide +kernel
theorem dX8_goods_99 : decode cX8_goods 99 = .ok (.iinc 6 1, 3) := by decide +kernel
theorem dX8_goods_102 : decode cX8_goods 102 = .ok (.goto (-30), 3) := by decide +kernel
theorem dX8_goods_105 : decode cX8_goods 105 = .ok (.iload 5, 2) := by decide +kernel
theorem dX8_goods_107 : decode cX8_goods 107 = .ok (.ireturn, 1) := by decide +kernel
theorem dX8_seed_0 : decode cX8_seed 0 = .ok (.aload_n 0, 1) := by decide +kernel
theorem dX8_seed_1 : decode cX8_seed 1 = .ok (.getfield 16, 3) := by decide +kernel
theorem dX8_seed_4 : decode cX8_seed 4 = .ok (.getfield 282, 3) := by decide +kernel
theorem dX8_seed_7 : decode cX8_seed 7 = .ok (.istore_n 2, 1) := by decide +kernel
theorem dX8_seed_8 : decode cX8_seed 8 = .ok (.aload_n 0, 1) := by decide +kernel
theorem dX8_seed_9 : decode cX8_seed 9 = .ok (.getfield 16, 3) := by decide +kernel
theorem dX8_seed_12 : decode cX8_seed 12 = .ok (.iload_n 1, 1) := by decide +kernel
theorem dX8_seed_13 : decode cX8_seed 13 = .ok (.putfield 282, 3) := by decide +kernel
theorem dX8_seed_16 : decode cX8_seed 16 = .ok (.iload_n 2, 1) := by decide +kernel
theorem dX8_seed_17 : decode cX8_seed 17 = .ok (.ireturn, 1) := by decide +kernel
set_option maxRecDepth 20000 in
theorem ggX8_voice_X8_isWord : GoodIn wsX8_voice wsX8_isWord := goodIn_r _ [10, 1, 2, 11, 12, 13, 9, 14, 44, 45, 46, 47, 48, 49, 50, 51, 52, 53, 54, 55, 56, 57, 58, 59, 60, 61, 62, 63, 64, 65, 66, 67, 68, 69, 70, 71, 72, 73, 74, 75, 76, 77, 78, 79, 80, 81, 82] (by decide +kernel) (by decide +kernel)
set_option maxRecDepth 20000 in
theorem gX8_voice_X8_isWord : GoodIn wsX8_voice (wsV RX8 128 RX8 yX8_isWord wsX8_isWord) := goodIn_app (goodIn_of _ (by decide +kernel)) ggX8_voice_X8_isWord
set_option maxRecDepth 20000 in
theorem ggX8_voice_X8_isOutside : GoodIn wsX8_voice wsX8_isOutside := goodIn_r _ [14] (by decide +kernel) (by decide +kernel)
set_option maxRecDepth 20000 in
theorem gX8_voice_X8_isOutside : GoodIn wsX8_voice (va_wsS RX8 87 yX8_isOutside wsX8_isOutside) := goodIn_app (goodIn_of _ (by decide +kernel)) ggX8_voice_X8_isOutside
set_option maxRecDepth 20000 in
theorem ggX8_voice_X8_refuse : GoodIn wsX8_voice wsX8_refuse := goodIn_r _ [18, 19, 20, 44, 45, 46, 47, 48, 49, 50, 51, 52, 53, 54] (by decide +kernel) (by decide +kernel)
set_option maxRecDepth 20000 in
theorem gX8_voice_X8_refuse : GoodIn wsX8_voice (wsV RX8 79 RX8 yX8_refuse wsX8_refuse) := goodIn_app (goodIn_of _ (by decide +kernel)) ggX8_voice_X8_refuse
set_option maxRecDepth 20000 in
theorem ggX8_voice_X6_begin : GoodIn wsX8_voice wsX6_begin := goodIn_r _ [25, 26, 27, 28, 29, 83, 84, 85, 86, 87] (by decide +kernel) (by decide +kernel)
set_option maxRecDepth 20000 in
theorem gX8_voice_X6_begin : GoodIn wsX8_voice (wsV RX8 285 RX6 yX6_begin wsX6_begin) := goodIn_app (goodIn_of _ (by decide +kernel)) ggX8_voice_X6_begin
set_option maxRecDepth 20000 in
theorem ggX8_voice_X6_say : GoodIn wsX8_voice wsX6_say := goodIn_r _ [33, 29, 34, 35, 36, 24, 37, 38, 39, 40, 41, 42, 27, 26, 28, 43, 31, 32, 83, 84, 85, 86, 87] (by decide +kernel) (by decide +kernel)
set_option maxRecDepth 20000 in
theorem gX8_voice_X6_say : GoodIn wsX8_voice (wsV RX8 289 RX6 yX6_say wsX6_say) := goodIn_app (goodIn_of _ (by decide +kernel)) ggX8_voice_X6_say
theorem dX8_voice_0 : decode cX8_voice 0 = .ok (.aload_n 0, 1) := by decide +kernel
theorem dX8_voice_1 : decode cX8_voice 1 = .ok (.iload_n 1, 1) := by decide +kernel
theorem dX8_voice_2 : decode cX8_voice 2 = .ok (.invokevirtual 128, 3) := by decide +kernel
theorem dX8_voice_5 : decode cX8_voice 5 = .ok (.ifCond .eq 12, 3) := by decide +kernel
theorem dX8_voice_8 : decode cX8_voice 8 = .ok (.iload_n 2, 1) := by decide +kernel
theorem dX8_voice_9 : decode cX8_voice 9 = .ok (.iconst 0, 1) := by decide +kernel
theorem dX8_voice_10 : decode cX8_voice 10 = .ok (.iconst 3, 1) := by decide +kernel
theorem dX8_voice_11 : decode cX8_voice 11 = .ok (.invokestatic 87, 3) := by decide +kernel
theorem dX8_voice_14 : decode cX8_voice 14 = .ok (.ifCond .eq 9, 3) := by decide +kernel
theorem dX8_voice_17 : decode cX8_voice 17 = .ok (.aload_n 0, 1) := by decide +kernel
theorem dX8_voice_18 : decode cX8_voice 18 = .ok (.iconst 1, 1) := by decide +kernel
theorem dX8_voice_19 : decode cX8_voice 19 = .ok (.invokevirtual 79, 3) := by decide +kernel
theorem dX8_voice_22 : decode cX8_voice 22 = .ok (.ireturn, 1) := by decide +kernel
theorem dX8_voice_23 : decode cX8_voice 23 = .ok (.aload_n 0, 1) := by decide +kernel
theorem dX8_voice_24 : decode cX8_voice 24 = .ok (.getfield 16, 3) := by decide +kernel
theorem dX8_voice_27 : decode cX8_voice 27 = .ok (.getfield 29, 3) := by decide +kernel
theorem dX8_voice_30 : decode cX8_voice 30 = .ok (.astore 4, 2) := by decide +kernel
theorem dX8_voice_32 : decode cX8_voice 32 = .ok (.aload_n 0, 1) := by decide +kernel
theorem dX8_voice_33 : decode cX8_voice 33 = .ok (.getfield 59, 3) := by decide +kernel
theorem dX8_voice_36 : decode cX8_voice 36 = .ok (.aload 4, 2) := by decide +kernel
theorem dX8_voice_38 : decode cX8_voice 38 = .ok (.getfield 131, 3) := by decide +kernel
theorem dX8_voice_41 : decode cX8_voice 41 = .ok (.iload_n 1, 1) := by decide +kernel
theorem dX8_voice_42 : decode cX8_voice 42 = .ok (.iaload, 1) := by decide +kernel
theorem dX8_voice_43 : decode cX8_voice 43 = .ok (.iload_n 1, 1) := by decide +kernel
theorem dX8_voice_44 : decode cX8_voice 44 = .ok (.aload 4, 2) := by decide +kernel
theorem dX8_voice_46 : decode cX8_voice 46 = .ok (.getfield 150, 3) := by decide +kernel
theorem dX8_voice_49 : decode cX8_voice 49 = .ok (.iload_n 1, 1) := by decide +kernel
theorem dX8_voice_50 : decode cX8_voice 50 = .ok (.iaload, 1) := by decide +kernel
theorem dX8_voice_51 : decode cX8_voice 51 = .ok (.invokevirtual 285, 3) := by decide +kernel
theorem dX8_voice_54 : decode cX8_voice 54 = .ok (.aload_n 0, 1) := by decide +kernel
theorem dX8_voice_55 : decode cX8_voice 55 = .ok (.getfield 59, 3) := by decide +kernel
theorem dX8_voice_58 : decode cX8_voice 58 = .ok (.aload 4, 2) := by decide +kernel
theorem dX8_voice_60 : decode cX8_voice 60 = .ok (.getfield 131, 3) := by decide +kernel
theorem dX8_voice_63 : decode cX8_voice 63 = .ok (.iload_n 1, 1) := by decide +kernel
theorem dX8_voice_64 : decode cX8_voice 64 = .ok (.iaload, 1) := by decide +kernel
theorem dX8_voice_65 : decode cX8_voice 65 = .ok (.iload_n 2, 1) := by decide +kernel
theorem dX8_voice_66 : decode cX8_voice 66 = .ok (.iload_n 3, 1) := by decide +kernel
theorem dX8_voice_67 : decode cX8_voice 67 = .ok (.iconst 0, 1) := by decide +kernel
theorem dX8_voice_68 : decode cX8_voice 68 = .ok (.invokevirtual 289, 3) := by decide +kernel
theorem dX8_voice_71 : decode cX8_voice 71 = .ok (.ireturn, 1) := by decide +kernel
set_option maxRecDepth 20000 in
theorem ggX8_trace_X8_isOutside : GoodIn wsX8_trace wsX8_isOutside := goodIn_r _ [7] (by decide +kernel) (by decide +kernel)
set_option maxRecDepth 20000 in
theorem gX8_trace_X8_isOutside : GoodIn wsX8_trace (va_wsS RX8 87 yX8_isOutside wsX8_isOutside) := goodIn_app (goodIn_of _ (by decide +kernel)) ggX8_trace_X8_isOutside
set_option maxRecDepth 20000 in
theorem ggX8_trace_X8_refuse : GoodIn wsX8_trace wsX8_refuse := goodIn_r _ [11, 12, 13, 14, 15, 16, 17, 18, 19, 20, 21, 22, 23, 24] (by decide +kernel) (by decide +kernel)
set_option maxRecDepth 20000 in
theorem gX8_trace_X8_refuse : GoodIn wsX8_trace (wsV RX8 79 RX8 yX8_refuse wsX8_refuse) := goodIn_app (goodIn_of _ (by decide +kernel)) ggX8_trace_X8_refuse
theorem dX8_trace_0 : decode cX8_trace 0 = .ok (.iload_n 1, 1) := by decide +kernel
theorem dX8_trace_1 : decode cX8_trace 1 = .ok (.iconst 0, 1) := by decide +kernel
theorem dX8_trace_2 : decode cX8_trace 2 = .ok (.aload_n 0, 1) := by decide +kernel
theorem dX8_trace_3 : decode cX8_trace 3 = .ok (.getfield 59, 3) := by decide +kernel
theorem dX8_trace_6 : decode cX8_trace 6 = .ok (.getfield 292, 3) := by decide +kernel
theorem dX8_trace_9 : decode cX8_trace 9 = .ok (.iconst 1, 1) := by decide +kernel
theorem dX8_trace_10 : decode cX8_trace 10 = .ok (.isub, 1) := by decide +kernel
theorem dX8_trace_11 : decode cX8_trace 11 = .ok (.invokestatic 87, 3) := by decide +kernel
theorem dX8_trace_14 : decode cX8_trace 14 = .ok (.ifCond .eq 11, 3) := by decide +kernel
theorem dX8_trace_17 : decode cX8_trace 17 = .ok (.aload_n 0, 1) := by decide +kernel
theorem dX8_trace_18 : decode cX8_trace 18 = .ok (.iconst 2, 1) := by decide +kernel
theorem dX8_trace_19 : decode cX8_trace 19 = .ok (.invokevirtual 79, 3) := by decide +kernel
theorem dX8_trace_22 : decode cX8_trace 22 = .ok (.goto 12, 3) := by decide +kernel
theorem dX8_trace_25 : decode cX8_trace 25 = .ok (.aload_n 0, 1) := by decide +kernel
theorem dX8_trace_26 : decode cX8_trace 26 = .ok (.getfield 59, 3) := by decide +kernel
theorem dX8_trace_29 : decode cX8_trace 29 = .ok (.getfield 295, 3) := by decide +kernel
theorem dX8_trace_32 : decode cX8_trace 32 = .ok (.iload_n 1, 1) := by decide +kernel
theorem dX8_trace_33 : decode cX8_trace 33 = .ok (.iaload, 1) := by decide +kernel
theorem dX8_trace_34 : decode cX8_trace 34 = .ok (.ireturn, 1) := by decide +kernel
set_option maxRecDepth 20000 in
theorem ggX8_sheet_X8_isSheet : GoodIn wsX8_sheet wsX8_isSheet := goodIn_r _ [5, 6, 7, 4, 8] (by decide +kernel) (by decide +kernel)
set_option maxRecDepth 20000 in
theorem gX8_sheet_X8_isSheet : GoodIn wsX8_sheet (va_wsS RX8 166 yX8_isSheet wsX8_isSheet) := goodIn_app (goodIn_of _ (by decide +kernel)) ggX8_sheet_X8_isSheet
set_option maxRecDepth 20000 in
theorem ggX8_sheet_X8_refuse : GoodIn wsX8_sheet wsX8_refuse := goodIn_r _ [12, 13, 14, 27, 28, 29, 30, 31, 32, 33, 34, 35, 36, 37] (by decide +kernel) (by decide +kernel)
set_option maxRecDepth 20000 in
theorem gX8_sheet_X8_refuse : GoodIn wsX8_sheet (wsV RX8 79 RX8 yX8_refuse wsX8_refuse) := goodIn_app (goodIn_of _ (by decide +kernel)) ggX8_sheet_X8_refuse
set_option maxRecDepth 20000 in
theorem ggX8_sheet_X3_become : GoodIn wsX8_sheet wsX3_become := goodIn_r _ [19, 20, 21, 22, 23, 24, 25, 26, 38, 39, 40] (by decide +kernel) (by decide +kernel)
set_option maxRecDepth 20000 in
theorem gX8_sheet_X3_become : GoodIn wsX8_sheet (wsV RX8 298 RX3 yX3_become wsX3_become) := goodIn_app (goodIn_of _ (by decide +kernel)) ggX8_sheet_X3_become
theorem dX8_sheet_0 : decode cX8_sheet 0 = .ok (.iload_n 1, 1) := by decide +kernel
theorem dX8_sheet_1 : decode cX8_sheet 1 = .ok (.invokestatic 166, 3) := by decide +kernel
theorem dX8_sheet_4 : decode cX8_sheet 4 = .ok (.ifCond .eq 25, 3) := by decide +kernel
theorem dX8_sheet_7 : decode cX8_sheet 7 = .ok (.iload_n 2, 1) := by decide +kernel
theorem dX8_sheet_8 : decode cX8_sheet 8 = .ok (.ifCond .eq 27, 3) := by decide +kernel
theorem dX8_sheet_11 : decode cX8_sheet 11 = .ok (.iload_n 2, 1) := by decide +kernel
theorem dX8_sheet_12 : decode cX8_sheet 12 = .ok (.bipush 8, 2) := by decide +kernel
theorem dX8_sheet_14 : decode cX8_sheet 14 = .ok (.if_icmp .eq 21, 3) := by decide +kernel
theorem dX8_sheet_17 : decode cX8_sheet 17 = .ok (.iload_n 2, 1) := by decide +kernel
theorem dX8_sheet_18 : decode cX8_sheet 18 = .ok (.bipush 16, 2) := by decide +kernel
theorem dX8_sheet_20 : decode cX8_sheet 20 = .ok (.if_icmp .eq 15, 3) := by decide +kernel
theorem dX8_sheet_23 : decode cX8_sheet 23 = .ok (.iload_n 2, 1) := by decide +kernel
theorem dX8_sheet_24 : decode cX8_sheet 24 = .ok (.bipush 32, 2) := by decide +kernel
theorem dX8_sheet_26 : decode cX8_sheet 26 = .ok (.if_icmp .eq 9, 3) := by decide +kernel
theorem dX8_sheet_29 : decode cX8_sheet 29 = .ok (.aload_n 0, 1) := by decide +kernel
theorem dX8_sheet_30 : decode cX8_sheet 30 = .ok (.iconst 1, 1) := by decide +kernel
theorem dX8_sheet_31 : decode cX8_sheet 31 = .ok (.invokevirtual 79, 3) := by decide +kernel
theorem dX8_sheet_34 : decode cX8_sheet 34 = .ok (.ireturn, 1) := by decide +kernel
theorem dX8_sheet_35 : decode cX8_sheet 35 = .ok (.iload_n 2, 1) := by decide +kernel
theorem dX8_sheet_36 : decode cX8_sheet 36 = .ok (.ifCond .ne 16, 3) := by decide +kernel
theorem dX8_sheet_39 : decode cX8_sheet 39 = .ok (.aload_n 0, 1) := by decide +kernel
theorem dX8_sheet_40 : decode cX8_sheet 40 = .ok (.getfield 65, 3) := by decide +kernel
theorem dX8_sheet_43 : decode cX8_sheet 43 = .ok (.iload_n 1, 1) := by decide +kernel
theorem dX8_sheet_44 : decode cX8_sheet 44 = .ok (.aaload, 1) := by decide +kernel
theorem dX8_sheet_45 : decode cX8_sheet 45 = .ok (.iconst 0, 1) := by decide +kernel
theorem dX8_sheet_46 : decode cX8_sheet 46 = .ok (.iconst 0, 1) := by decide +kernel
theorem dX8_sheet_47 : decode cX8_sheet 47 = .ok (.invokevirtual 298, 3) := by decide +kernel
theorem dX8_sheet_50 : decode cX8_sheet 50 = .ok (.iconst 1, 1) := by decide +kernel
theorem dX8_sheet_51 : decode cX8_sheet 51 = .ok (.ireturn, 1) := by decide +kernel
theorem dX8_sheet_52 : decode cX8_sheet 52 = .ok (.iload_n 3, 1) := by decide +kernel
theorem dX8_sheet_53 : decode cX8_sheet 53 = .ok (.ifCond .ge 9, 3) := by decide +kernel
theorem dX8_sheet_56 : decode cX8_sheet 56 = .ok (.aload_n 0, 1) := by decide +kernel
theorem dX8_sheet_57 : decode cX8_sheet 57 = .ok (.iconst 3, 1) := by decide +kernel
theorem dX8_sheet_58 : decode cX8_sheet 58 = .ok (.invokevirtual 79, 3) := by decide +kernel
theorem dX8_sheet_61 : decode cX8_sheet 61 = .ok (.ireturn, 1) := by decide +kernel
theorem dX8_sheet_62 : decode cX8_sheet 62 = .ok (.iload_n 3, 1) := by decide +kernel
theorem dX8_sheet_63 : decode cX8_sheet 63 = .ok (.bipush 40, 2) := by decide +kernel
theorem dX8_sheet_65 : decode cX8_sheet 65 = .ok (.if_icmp .le 9, 3) := by decide +kernel
theorem dX8_sheet_68 : decode cX8_sheet 68 = .ok (.aload_n 0, 1) := by decide +kernel
theorem dX8_sheet_69 : decode cX8_sheet 69 = .ok (.iconst 1, 1) := by decide +kernel
theorem dX8_sheet_70 : decode cX8_sheet 70 = .ok (.invokevirtual 79, 3) := by decide +kernel
theorem dX8_sheet_73 : decode cX8_sheet 73 = .ok (.ireturn, 1) := by decide +kernel
theorem dX8_sheet_74 : decode cX8_sheet 74 = .ok (.aload_n 0, 1) := by decide +kernel
theorem dX8_sheet_75 : decode cX8_sheet 75 = .ok (.getfield 65, 3) := by decide +kernel
theorem dX8_sheet_78 : decode cX8_sheet 78 = .ok (.iload_n 1, 1) := by decide +kernel
theorem dX8_sheet_79 : decode cX8_sheet 79 = .ok (.aaload, 1) := by decide +kernel
theorem dX8_sheet_80 : decode cX8_sheet 80 = .ok (.iload_n 2, 1) := by decide +kernel
theorem dX8_sheet_81 : decode cX8_sheet 81 = .ok (.iload_n 3, 1) := by decide +kernel
theorem dX8_sheet_82 : decode cX8_sheet 82 = .ok (.invokevirtual 298, 3) := by decide +kernel
theorem dX8_sheet_85 : decode cX8_sheet 85 = .ok (.iconst 1, 1) := by decide +kernel
theorem dX8_sheet_86 : decode cX8_sheet 86 = .ok (.ireturn, 1) := by decide +kernel
set_option maxRecDepth 20000 in
theorem ggX8_put_X8_isSheet : GoodIn wsX8_put wsX8_isSheet := goodIn_r _ [8, 9, 10, 7, 11] (by decide +kernel) (by decide +kernel)
set_option maxRecDepth 20000 in
theorem gX8_put_X8_isSheet : GoodIn wsX8_put (va_wsS RX8 166 yX8_isSheet wsX8_isSheet) := goodIn_app (goodIn_of _ (by decide +kernel)) ggX8_put_X8_isSheet
set_option maxRecDepth 20000 in
theorem ggX8_put_X8_refuse : GoodIn wsX8_put wsX8_refuse := goodIn_r _ [15, 16, 17, 24, 25, 26, 27, 28, 29, 30, 31, 32, 33, 34] (by decide +kernel) (by decide +kernel)
set_option maxRecDepth 20000 in
theorem gX8_put_X8_refuse : GoodIn wsX8_put (wsV RX8 79 RX8 yX8_refuse wsX8_refuse) := goodIn_app (goodIn_of _ (by decide +kernel)) ggX8_put_X8_refuse
set_option maxRecDepth 20000 in
theorem ggX8_put_X8_isOutside : GoodIn wsX8_put wsX8_isOutside := goodIn_r _ [11] (by decide +kernel) (by decide +kernel)
set_option maxRecDepth 20000 in
theorem gX8_put_X8_isOutside : GoodIn wsX8_put (va_wsS RX8 87 yX8_isOutside wsX8_isOutside) := goodIn_app (goodIn_of _ (by decide +kernel)) ggX8_put_X8_isOutside
set_option maxRecDepth 20000 in
theorem ggX8_put_X3_cut : GoodIn wsX8_put wsX3_cut := goodIn_r _ [22, 23, 35, 36, 37] (by decide +kernel) (by decide +kernel)
set_option maxRecDepth 20000 in
theorem gX8_put_X3_cut : GoodIn wsX8_put (wsV RX8 301 RX3 yX3_cut wsX3_cut) := goodIn_app (goodIn_of _ (by decide +kernel)) ggX8_put_X3_cut
theorem dX8_put_0 : decode cX8_put 0 = .ok (.iload_n 1, 1) := by decide +kernel
theorem dX8_put_1 : decode cX8_put 1 = .ok (.invokestatic 166, 3) := by decide +kernel
theorem dX8_put_4 : decode cX8_put 4 = .ok (.ifCond .ne 9, 3) := by decide +kernel
theorem dX8_put_7 : decode cX8_put 7 = .ok (.aload_n 0, 1) := by decide +kernel
theorem dX8_put_8 : decode cX8_put 8 = .ok (.iconst 1, 1) := by decide +kernel
theorem dX8_put_9 : decode cX8_put 9 = .ok (.invokevirtual 79, 3) := by decide +kernel
theorem dX8_put_12 : decode cX8_put 12 = .ok (.ireturn, 1) := by decide +kernel
theorem dX8_put_13 : decode cX8_put 13 = .ok (.aload_n 0, 1) := by decide +kernel
theorem dX8_put_14 : decode cX8_put 14 = .ok (.getfield 65, 3) := by decide +kernel
theorem dX8_put_17 : decode cX8_put 17 = .ok (.iload_n 1, 1) := by decide +kernel
theorem dX8_put_18 : decode cX8_put 18 = .ok (.aaload, 1) := by decide +kernel
theorem dX8_put_19 : decode cX8_put 19 = .ok (.astore 4, 2) := by decide +kernel
theorem dX8_put_21 : decode cX8_put 21 = .ok (.aload 4, 2) := by decide +kernel
theorem dX8_put_23 : decode cX8_put 23 = .ok (.getfield 169, 3) := by decide +kernel
theorem dX8_put_26 : decode cX8_put 26 = .ok (.ifCond .ne 9, 3) := by decide +kernel
theorem dX8_put_29 : decode cX8_put 29 = .ok (.aload_n 0, 1) := by decide +kernel
theorem dX8_put_30 : decode cX8_put 30 = .ok (.iconst 2, 1) := by decide +kernel
theorem dX8_put_31 : decode cX8_put 31 = .ok (.invokevirtual 79, 3) := by decide +kernel
theorem dX8_put_34 : decode cX8_put 34 = .ok (.ireturn, 1) := by decide +kernel
theorem dX8_put_35 : decode cX8_put 35 = .ok (.iload_n 2, 1) := by decide +kernel
theorem dX8_put_36 : decode cX8_put 36 = .ok (.iconst 0, 1) := by decide +kernel
theorem dX8_put_37 : decode cX8_put 37 = .ok (.aload 4, 2) := by decide +kernel
theorem dX8_put_39 : decode cX8_put 39 = .ok (.getfield 172, 3) := by decide +kernel
theorem dX8_put_42 : decode cX8_put 42 = .ok (.iconst 1, 1) := by decide +kernel
theorem dX8_put_43 : decode cX8_put 43 = .ok (.isub, 1) := by decide +kernel
theorem dX8_put_44 : decode cX8_put 44 = .ok (.invokestatic 87, 3) := by decide +kernel
theorem dX8_put_47 : decode cX8_put 47 = .ok (.ifCond .eq 9, 3) := by decide +kernel
theorem dX8_put_50 : decode cX8_put 50 = .ok (.aload_n 0, 1) := by decide +kernel
theorem dX8_put_51 : decode cX8_put 51 = .ok (.iconst 1, 1) := by decide +kernel
theorem dX8_put_52 : decode cX8_put 52 = .ok (.invokevirtual 79, 3) := by decide +kernel
theorem dX8_put_55 : decode cX8_put 55 = .ok (.ireturn, 1) := by decide +kernel
theorem dX8_put_56 : decode cX8_put 56 = .ok (.aload 4, 2) := by decide +kernel
theorem dX8_put_58 : decode cX8_put 58 = .ok (.getfield 175, 3) := by decide +kernel
theorem dX8_put_61 : decode cX8_put 61 = .ok (.iload_n 2, 1) := by decide +kernel
theorem dX8_put_62 : decode cX8_put 62 = .ok (.aload 4, 2) := by decide +kernel
theorem dX8_put_64 : decode cX8_put 64 = .ok (.iload_n 3, 1) := by decide +kernel
theorem dX8_put_65 : decode cX8_put 65 = .ok (.invokevirtual 301, 3) := by decide +kernel
theorem dX8_put_68 : decode cX8_put 68 = .ok (.iastore, 1) := by decide +kernel
theorem dX8_put_69 : decode cX8_put 69 = .ok (.iconst 1, 1) := by decide +kernel
theorem dX8_put_70 : decode cX8_put 70 = .ok (.ireturn, 1) := by decide +kernel
set_option maxRecDepth 20000 in
theorem ggX8_move_X8_isSheet : GoodIn wsX8_move wsX8_isSheet := goodIn_r _ [11, 12, 13, 10, 14] (by decide +kernel) (by decide +kernel)
set_option maxRecDepth 20000 in
theorem gX8_move_X8_isSheet : GoodIn wsX8_move (va_wsS RX8 166 yX8_isSheet wsX8_isSheet) := goodIn_app (goodIn_of _ (by decide +kernel)) ggX8_move_X8_isSheet
set_option maxRecDepth 20000 in
theorem ggX8_move_X8_refuse : GoodIn wsX8_move wsX8_refuse := goodIn_r _ [18, 19, 20, 27, 28, 29, 30, 31, 32, 33, 34, 35, 36, 37] (by decide +kernel) (by decide +kernel)
set_option maxRecDepth 20000 in
theorem gX8_move_X8_refuse : GoodIn wsX8_move (wsV RX8 79 RX8 yX8_refuse wsX8_refuse) := goodIn_app (goodIn_of _ (by decide +kernel)) ggX8_move_X8_refuse
set_option maxRecDepth 20000 in
theorem ggX8_move_X3_holds : GoodIn wsX8_move wsX3_holds := goodIn_r _ [25, 26, 38, 39, 40] (by decide +kernel) (by decide +kernel)
set_option maxRecDepth 20000 in
theorem gX8_move_X3_holds : GoodIn wsX8_move (wsV RX8 304 RX3 yX3_holds wsX3_holds) := goodIn_app (goodIn_of _ (by decide +kernel)) ggX8_move_X3_holds
theorem dX8_move_0 : decode cX8_move 0 = .ok (.iload_n 1, 1) := by decide +kernel
theorem dX8_move_1 : decode cX8_move 1 = .ok (.invokestatic 166, 3) := by decide +kernel
theorem dX8_move_4 : decode cX8_move 4 = .ok (.ifCond .eq 10, 3) := by decide +kernel
theorem dX8_move_7 : decode cX8_move 7 = .ok (.iload_n 3, 1) := by decide +kernel
theorem dX8_move_8 : decode cX8_move 8 = .ok (.invokestatic 166, 3) := by decide +kernel
theorem dX8_move_11 : decode cX8_move 11 = .ok (.ifCond .ne 9, 3) := by decide +kernel
theorem dX8_move_14 : decode cX8_move 14 = .ok (.aload_n 0, 1) := by decide +kernel
theorem dX8_move_15 : decode cX8_move 15 = .ok (.iconst 1, 1) := by decide +kernel
theorem dX8_move_16 : decode cX8_move 16 = .ok (.invokevirtual 79, 3) := by decide +kernel
theorem dX8_move_19 : decode cX8_move 19 = .ok (.ireturn, 1) := by decide +kernel
theorem dX8_move_20 : decode cX8_move 20 = .ok (.aload_n 0, 1) := by decide +kernel
theorem dX8_move_21 : decode cX8_move 21 = .ok (.getfield 65, 3) := by decide +kernel
theorem dX8_move_24 : decode cX8_move 24 = .ok (.iload_n 1, 1) := by decide +kernel
theorem dX8_move_25 : decode cX8_move 25 = .ok (.aaload, 1) := by decide +kernel
theorem dX8_move_26 : decode cX8_move 26 = .ok (.astore 6, 2) := by decide +kernel
theorem dX8_move_28 : decode cX8_move 28 = .ok (.aload_n 0, 1) := by decide +kernel
theorem dX8_move_29 : decode cX8_move 29 = .ok (.getfield 65, 3) := by decide +kernel
theorem dX8_move_32 : decode cX8_move 32 = .ok (.iload_n 3, 1) := by decide +kernel
theorem dX8_move_33 : decode cX8_move 33 = .ok (.aaload, 1) := by decide +kernel
theorem dX8_move_34 : decode cX8_move 34 = .ok (.astore 7, 2) := by decide +kernel
theorem dX8_move_36 : decode cX8_move 36 = .ok (.aload 6, 2) := by decide +kernel
theorem dX8_move_38 : decode cX8_move 38 = .ok (.getfield 169, 3) := by decide +kernel
theorem dX8_move_41 : decode cX8_move 41 = .ok (.ifCond .eq 11, 3) := by decide +kernel
theorem dX8_move_44 : decode cX8_move 44 = .ok (.aload 7, 2) := by decide +kernel
theorem dX8_move_46 : decode cX8_move 46 = .ok (.getfield 169, 3) := by decide +kernel
theorem dX8_move_49 : decode cX8_move 49 = .ok (.ifCond .ne 9, 3) := by decide +kernel
theorem dX8_move_52 : decode cX8_move 52 = .ok (.aload_n 0, 1) := by decide +kernel
theorem dX8_move_53 : decode cX8_move 53 = .ok (.iconst 2, 1) := by decide +kernel
theorem dX8_move_54 : decode cX8_move 54 = .ok (.invokevirtual 79, 3) := by decide +kernel
theorem dX8_move_57 : decode cX8_move 57 = .ok (.ireturn, 1) := by decide +kernel
theorem dX8_move_58 : decode cX8_move 58 = .ok (.aload 6, 2) := by decide +kernel
theorem dX8_move_60 : decode cX8_move 60 = .ok (.getfield 169, 3) := by decide +kernel
theorem dX8_move_63 : decode cX8_move 63 = .ok (.aload 7, 2) := by decide +kernel
theorem dX8_move_65 : decode cX8_move 65 = .ok (.getfield 169, 3) := by decide +kernel
theorem dX8_move_68 : decode cX8_move 68 = .ok (.if_icmp .eq 9, 3) := by decide +kernel
theorem dX8_move_71 : decode cX8_move 71 = .ok (.aload_n 0, 1) := by decide +kernel
theorem dX8_move_72 : decode cX8_move 72 = .ok (.iconst 5, 1) := by decide +kernel
theorem dX8_move_73 : decode cX8_move 73 = .ok (.invokevirtual 79, 3) := by decide +kernel
theorem dX8_move_76 : decode cX8_move 76 = .ok (.ireturn, 1) := by decide +kernel
theorem dX8_move_77 : decode cX8_move 77 = .ok (.aload 6, 2) := by decide +kernel
theorem dX8_move_79 : decode cX8_move 79 = .ok (.iload_n 2, 1) := by decide +kernel
theorem dX8_move_80 : decode cX8_move 80 = .ok (.iload 5, 2) := by decide +kernel
theorem dX8_move_82 : decode cX8_move 82 = .ok (.invokevirtual 304, 3) := by decide +kernel
theorem dX8_move_85 : decode cX8_move 85 = .ok (.ifCond .eq 15, 3) := by decide +kernel
theorem dX8_move_88 : decode cX8_move 88 = .ok (.aload 7, 2) := by decide +kernel
theorem dX8_move_90 : decode cX8_move 90 = .ok (.iload 4, 2) := by decide +kernel
theorem dX8_move_92 : decode cX8_move 92 = .ok (.iload 5, 2) := by decide +kernel
theorem dX8_move_94 : decode cX8_move 94 = .ok (.invokevirtual 304, 3) := by decide +kernel
theorem dX8_move_97 : decode cX8_move 97 = .ok (.ifCond .ne 9, 3) := by decide +kernel
theorem dX8_move_100 : decode cX8_move 100 = .ok (.aload_n 0, 1) := by decide +kernel
theorem dX8_move_101 : decode cX8_move 101 = .ok (.iconst 1, 1) := by decide +kernel
theorem dX8_move_102 : decode cX8_move 102 = .ok (.invokevirtual 79, 3) := by decide +kernel
theorem dX8_move_105 : decode cX8_move 105 = .ok (.ireturn, 1) := by decide +kernel
theorem dX8_move_106 : decode cX8_move 106 = .ok (.aload 6, 2) := by decide +kernel
theorem dX8_move_108 : decode cX8_move 108 = .ok (.getfield 175, 3) := by decide +kernel
theorem dX8_move_111 : decode cX8_move 111 = .ok (.iload_n 2, 1) := by decide +kernel
theorem dX8_move_112 : decode cX8_move 112 = .ok (.aload 7, 2) := by decide +kernel
theorem dX8_move_114 : decode cX8_move 114 = .ok (.getfield 175, 3) := by decide +kernel
theorem dX8_move_117 : decode cX8_move 117 = .ok (.iload 4, 2) := by decide +kernel
theorem dX8_move_119 : decode cX8_move 119 = .ok (.iload 5, 2) := by decide +kernel
theorem dX8_move_121 : decode cX8_move 121 = .ok (.invokestatic 307, 3) := by decide +kernel
theorem dX8_move_124 : decode cX8_move 124 = .ok (.iload 5, 2) := by decide +kernel
theorem dX8_move_126 : decode cX8_move 126 = .ok (.ireturn, 1) := by decide +kernel
set_option maxRecDepth 20000 in
theorem ggX8_image_X7_become : GoodIn wsX8_image wsX7_become := goodIn_r _ [8, 9, 10, 11, 12, 13, 14, 15, 16, 17, 18, 19, 20, 21, 22, 23, 24, 25, 26, 27, 28, 29, 30, 31, 32, 33, 34, 35, 36, 37, 38, 39, 40, 41, 42, 43, 44, 45, 46, 47, 48, 49, 50, 51, 52, 53, 54, 55, 56, 57, 58, 59, 60, 61, 62, 63, 64, 65, 77, 78, 79, 80, 81, 82, 83, 84, 85, 86, 87, 88, 89, 90, 91, 92, 93, 94, 95, 96, 97, 98, 99, 100, 101, 102, 103, 104, 105, 106, 107, 108, 109] (by decide +kernel) (by decide +kernel)
set_option maxRecDepth 20000 in
theorem gX8_image_X7_become : GoodIn wsX8_image (wsV RX8 313 RX7 yX7_become wsX7_become) := goodIn_app (goodIn_of _ (by decide +kernel)) ggX8_image_X7_become
theorem dX8_image_0 : decode cX8_image 0 = .ok (.aload_n 0, 1) := by decide +kernel
theorem dX8_image_1 : decode cX8_image 1 = .ok (.getfield 20, 3) := by decide +kernel
theorem dX8_image_4 : decode cX8_image 4 = .ok (.aload_n 0, 1) := by decide +kernel
theorem dX8_image_5 : decode cX8_image 5 = .ok (.getfield 16, 3) := by decide +kernel
theorem dX8_image_8 : decode cX8_image 8 = .ok (.invokevirtual 313, 3) := by decide +kernel
theorem dX8_image_11 : decode cX8_image 11 = .ok (.aload_n 0, 1) := by decide +kernel
theorem dX8_image_12 : decode cX8_image 12 = .ok (.dup, 1) := by decide +kernel
theorem dX8_image_13 : decode cX8_image 13 = .ok (.getfield 23, 3) := by decide +kernel
theorem dX8_image_16 : decode cX8_image 16 = .ok (.iconst 1, 1) := by decide +kernel
theorem dX8_image_17 : decode cX8_image 17 = .ok (.iadd, 1) := by decide +kernel
theorem dX8_image_18 : decode cX8_image 18 = .ok (.putfield 23, 3) := by decide +kernel
theorem dX8_image_21 : decode cX8_image 21 = .ok (.aload_n 0, 1) := by decide +kernel
theorem dX8_image_22 : decode cX8_image 22 = .ok (.getfield 23, 3) := by decide +kernel
theorem dX8_image_25 : decode cX8_image 25 = .ok (.ireturn, 1) := by decide +kernel
set_option maxRecDepth 20000 in
theorem ggX8_restore_X8_refuse : GoodIn wsX8_restore wsX8_refuse := goodIn_r _ [9, 10, 11, 74, 75, 76, 77, 78, 79, 80, 81, 82, 83, 84] (by decide +kernel) (by decide +kernel)
set_option maxRecDepth 20000 in
theorem gX8_restore_X8_refuse : GoodIn wsX8_restore (wsV RX8 79 RX8 yX8_refuse wsX8_refuse) := goodIn_app (goodIn_of _ (by decide +kernel)) ggX8_restore_X8_refuse
set_option maxRecDepth 20000 in
theorem ggX8_restore_X7_become : GoodIn wsX8_restore wsX7_become := goodIn_r _ [16, 17, 18, 19, 20, 21, 22, 23, 24, 25, 26, 27, 28, 29, 30, 31, 32, 33, 34, 35, 36, 37, 38, 39, 40, 41, 42, 43, 44, 45, 46, 47, 48, 49, 50, 51, 52, 53, 54, 55, 56, 57, 58, 59, 60, 61, 62, 63, 64, 65, 66, 67, 68, 69, 70, 71, 72, 73, 85, 86, 87, 88, 89, 90, 91, 92, 93, 94, 95, 96, 97, 98, 99, 100, 101, 102, 103, 104, 105, 106, 107, 108, 109, 110, 111, 112, 113, 114, 115, 116, 117] (by decide +kernel) (by decide +kernel)
set_option maxRecDepth 20000 in
theorem gX8_restore_X7_become : GoodIn wsX8_restore (wsV RX8 313 RX7 yX7_become wsX7_become) := goodIn_app (goodIn_of _ (by decide +kernel)) ggX8_restore_X7_become
theorem dX8_restore_0 : decode cX8_restore 0 = .ok (.aload_n 0, 1) := by decide +kernel
theorem dX8_restore_1 : decode cX8_restore 1 = .ok (.getfield 23, 3) := by decide +kernel
theorem dX8_restore_4 : decode cX8_restore 4 = .ok (.ifCond .ne 9, 3) := by decide +kernel
theorem dX8_restore_7 : decode cX8_restore 7 = .ok (.aload_n 0, 1) := by decide +kernel
theorem dX8_restore_8 : decode cX8_restore 8 = .ok (.iconst 2, 1) := by decide +kernel
theorem dX8_restore_9 : decode cX8_restore 9 = .ok (.invokevirtual 79, 3) := by decide +kernel
theorem dX8_restore_12 : decode cX8_restore 12 = .ok (.ireturn, 1) := by decide +kernel
theorem dX8_restore_13 : decode cX8_restore 13 = .ok (.aload_n 0, 1) := by decide +kernel
theorem dX8_restore_14 : decode cX8_restore 14 = .ok (.getfield 16, 3) := by decide +kernel
theorem dX8_restore_17 : decode cX8_restore 17 = .ok (.aload_n 0, 1) := by decide +kernel
theorem dX8_restore_18 : decode cX8_restore 18 = .ok (.getfield 20, 3) := by decide +kernel
theorem dX8_restore_21 : decode cX8_restore 21 = .ok (.invokevirtual 313, 3) := by decide +kernel
theorem dX8_restore_24 : decode cX8_restore 24 = .ok (.aload_n 0, 1) := by decide +kernel
theorem dX8_restore_25 : decode cX8_restore 25 = .ok (.getfield 16, 3) := by decide +kernel
theorem dX8_restore_28 : decode cX8_restore 28 = .ok (.getfield 156, 3) := by decide +kernel
theorem dX8_restore_31 : decode cX8_restore 31 = .ok (.ireturn, 1) := by decide +kernel
set_option maxRecDepth 20000 in
theorem ggX8_tell_X8_refuse : GoodIn wsX8_tell wsX8_refuse := goodIn_r _ [8, 9, 10, 11, 12, 13, 14, 15, 16, 17, 18, 19, 20, 21] (by decide +kernel) (by decide +kernel)
set_option maxRecDepth 20000 in
theorem gX8_tell_X8_refuse : GoodIn wsX8_tell (wsV RX8 79 RX8 yX8_refuse wsX8_refuse) := goodIn_app (goodIn_of _ (by decide +kernel)) ggX8_tell_X8_refuse
theorem dX8_tell_0 : decode cX8_tell 0 = .ok (.aload_n 0, 1) := by decide +kernel
theorem dX8_tell_1 : decode cX8_tell 1 = .ok (.getfield 16, 3) := by decide +kernel
theorem dX8_tell_4 : decode cX8_tell 4 = .ok (.getfield 316, 3) := by decide +kernel
theorem dX8_tell_7 : decode cX8_tell 7 = .ok (.bipush 20, 2) := by decide +kernel
theorem dX8_tell_9 : decode cX8_tell 9 = .ok (.if_icmp .lt 9, 3) := by decide +kernel
theorem dX8_tell_12 : decode cX8_tell 12 = .ok (.aload_n 0, 1) := by decide +kernel
theorem dX8_tell_13 : decode cX8_tell 13 = .ok (.iconst 4, 1) := by decide +kernel
theorem dX8_tell_14 : decode cX8_tell 14 = .ok (.invokevirtual 79, 3) := by decide +kernel
theorem dX8_tell_17 : decode cX8_tell 17 = .ok (.ireturn, 1) := by decide +kernel
theorem dX8_tell_18 : decode cX8_tell 18 = .ok (.aload_n 0, 1) := by decide +kernel
theorem dX8_tell_19 : decode cX8_tell 19 = .ok (.getfield 16, 3) := by decide +kernel
theorem dX8_tell_22 : decode cX8_tell 22 = .ok (.getfield 319, 3) := by decide +kernel
theorem dX8_tell_25 : decode cX8_tell 25 = .ok (.aload_n 0, 1) := by decide +kernel
theorem dX8_tell_26 : decode cX8_tell 26 = .ok (.getfield 16, 3) := by decide +kernel
theorem dX8_tell_29 : decode cX8_tell 29 = .ok (.getfield 316, 3) := by decide +kernel
theorem dX8_tell_32 : decode cX8_tell 32 = .ok (.iload_n 1, 1) := by decide +kernel
theorem dX8_tell_33 : decode cX8_tell 33 = .ok (.iastore, 1) := by decide +kernel
theorem dX8_tell_34 : decode cX8_tell 34 = .ok (.aload_n 0, 1) := by decide +kernel
theorem dX8_tell_35 : decode cX8_tell 35 = .ok (.getfield 16, 3) := by decide +kernel
theorem dX8_tell_38 : decode cX8_tell 38 = .ok (.dup, 1) := by decide +kernel
theorem dX8_tell_39 : decode cX8_tell 39 = .ok (.getfield 316, 3) := by decide +kernel
theorem dX8_tell_42 : decode cX8_tell 42 = .ok (.iconst 1, 1) := by decide +kernel
theorem dX8_tell_43 : decode cX8_tell 43 = .ok (.iadd, 1) := by decide +kernel
theorem dX8_tell_44 : decode cX8_tell 44 = .ok (.putfield 316, 3) := by decide +kernel
theorem dX8_tell_47 : decode cX8_tell 47 = .ok (.aload_n 0, 1) := by decide +kernel
theorem dX8_tell_48 : decode cX8_tell 48 = .ok (.getfield 16, 3) := by decide +kernel
theorem dX8_tell_51 : decode cX8_tell 51 = .ok (.getfield 316, 3) := by decide +kernel
theorem dX8_tell_54 : decode cX8_tell 54 = .ok (.ireturn, 1) := by decide +kernel
set_option maxRecDepth 20000 in
theorem ggX8_check_X8_isPlace : GoodIn wsX8_check wsX8_isPlace := goodIn_r _ [7, 1, 8, 9, 10, 11, 6, 12, 39, 40, 41, 42, 43, 44, 45, 46, 47, 48, 49, 50, 51, 52, 53, 54, 55, 56, 57, 58, 59, 60, 61, 62, 63, 64, 65, 66, 67, 68, 69] (by decide +kernel) (by decide +kernel)
set_option maxRecDepth 20000 in
theorem gX8_check_X8_isPlace : GoodIn wsX8_check (wsV RX8 95 RX8 yX8_isPlace wsX8_isPlace) := goodIn_app (goodIn_of _ (by decide +kernel)) ggX8_check_X8_isPlace
set_option maxRecDepth 20000 in
theorem ggX8_check_X8_isPact : GoodIn wsX8_check wsX8_isPact := goodIn_r _ [15, 10, 11, 6, 12] (by decide +kernel) (by decide +kernel)
set_option maxRecDepth 20000 in
theorem gX8_check_X8_isPact : GoodIn wsX8_check (va_wsS RX8 178 yX8_isPact wsX8_isPact) := goodIn_app (goodIn_of _ (by decide +kernel)) ggX8_check_X8_isPact
set_option maxRecDepth 20000 in
theorem ggX8_check_X8_refuse : GoodIn wsX8_check wsX8_refuse := goodIn_r _ [19, 20, 21, 39, 40, 41, 42, 43, 44, 45, 46, 47, 48, 49] (by decide +kernel) (by decide +kernel)
set_option maxRecDepth 20000 in
theorem gX8_check_X8_refuse : GoodIn wsX8_check (wsV RX8 79 RX8 yX8_refuse wsX8_refuse) := goodIn_app (goodIn_of _ (by decide +kernel)) ggX8_check_X8_refuse
set_option maxRecDepth 20000 in
theorem ggX8_check_X8_firstUnlike : GoodIn wsX8_check wsX8_firstUnlike := goodIn_r _ [25, 1, 26, 27, 28, 29, 30, 31, 32, 33, 34, 35, 36, 37, 38, 39, 40, 41, 42, 43, 44, 45, 46, 47, 48, 49, 50, 51, 52, 53, 54, 55, 56, 57, 58, 59, 60, 61, 62, 63, 64, 65, 66, 70, 71, 72, 73, 74, 75, 76, 77, 78, 79, 80] (by decide +kernel) (by decide +kernel)
set_option maxRecDepth 20000 in
theorem gX8_check_X8_firstUnlike : GoodIn wsX8_check (wsV RX8 322 RX8 yX8_firstUnlike wsX8_firstUnlike) := goodIn_app (goodIn_of _ (by decide +kernel)) ggX8_check_X8_firstUnlike
theorem dX8_check_0 : decode cX8_check 0 = .ok (.aload_n 0, 1) := by decide +kernel
theorem dX8_check_1 : decode cX8_check 1 = .ok (.getfield 16, 3) := by decide +kernel
theorem dX8_check_4 : decode cX8_check 4 = .ok (.getfield 316, 3) := by decide +kernel
theorem dX8_check_7 : decode cX8_check 7 = .ok (.istore_n 3, 1) := by decide +kernel
theorem dX8_check_8 : decode cX8_check 8 = .ok (.aload_n 0, 1) := by decide +kernel
theorem dX8_check_9 : decode cX8_check 9 = .ok (.getfield 16, 3) := by decide +kernel
theorem dX8_check_12 : decode cX8_check 12 = .ok (.iconst 0, 1) := by decide +kernel
theorem dX8_check_13 : decode cX8_check 13 = .ok (.putfield 316, 3) := by decide +kernel
theorem dX8_check_16 : decode cX8_check 16 = .ok (.aload_n 0, 1) := by decide +kernel
theorem dX8_check_17 : decode cX8_check 17 = .ok (.iload_n 1, 1) := by decide +kernel
theorem dX8_check_18 : decode cX8_check 18 = .ok (.invokevirtual 95, 3) := by decide +kernel
theorem dX8_check_21 : decode cX8_check 21 = .ok (.ifCond .eq 10, 3) := by decide +kernel
theorem dX8_check_24 : decode cX8_check 24 = .ok (.iload_n 2, 1) := by decide +kernel
theorem dX8_check_25 : decode cX8_check 25 = .ok (.invokestatic 178, 3) := by decide +kernel
theorem dX8_check_28 : decode cX8_check 28 = .ok (.ifCond .ne 9, 3) := by decide +kernel
theorem dX8_check_31 : decode cX8_check 31 = .ok (.aload_n 0, 1) := by decide +kernel
theorem dX8_check_32 : decode cX8_check 32 = .ok (.iconst 1, 1) := by decide +kernel
theorem dX8_check_33 : decode cX8_check 33 = .ok (.invokevirtual 79, 3) := by decide +kernel
theorem dX8_check_36 : decode cX8_check 36 = .ok (.ireturn, 1) := by decide +kernel
theorem dX8_check_37 : decode cX8_check 37 = .ok (.aload_n 0, 1) := by decide +kernel
theorem dX8_check_38 : decode cX8_check 38 = .ok (.iload_n 1, 1) := by decide +kernel
theorem dX8_check_39 : decode cX8_check 39 = .ok (.iload_n 2, 1) := by decide +kernel
theorem dX8_check_40 : decode cX8_check 40 = .ok (.iload_n 3, 1) := by decide +kernel
theorem dX8_check_41 : decode cX8_check 41 = .ok (.invokevirtual 322, 3) := by decide +kernel
theorem dX8_check_44 : decode cX8_check 44 = .ok (.ireturn, 1) := by decide +kernel
set_option maxRecDepth 20000 in
theorem ggX8_count_X8_refuse : GoodIn wsX8_count wsX8_refuse := goodIn_r _ [18, 19, 20, 21, 22, 23, 24, 25, 26, 27, 28, 29, 30, 31] (by decide +kernel) (by decide +kernel)
set_option maxRecDepth 20000 in
theorem gX8_count_X8_refuse : GoodIn wsX8_count (wsV RX8 79 RX8 yX8_refuse wsX8_refuse) := goodIn_app (goodIn_of _ (by decide +kernel)) ggX8_count_X8_refuse
theorem dX8_count_0 : decode cX8_count 0 = .ok (.iload_n 1, 1) := by decide +kernel
theorem dX8_count_1 : decode cX8_count 1 = .ok (.tableswitch 143 0 8 #[51, 59, 70, 81, 103, 111, 119, 127, 135], 51) := by decide +kernel
theorem dX8_count_52 : decode cX8_count 52 = .ok (.aload_n 0, 1) := by decide +kernel
theorem dX8_count_53 : decode cX8_count 53 = .ok (.getfield 16, 3) := by decide +kernel
theorem dX8_count_56 : decode cX8_count 56 = .ok (.getfield 156, 3) := by decide +kernel
theorem dX8_count_59 : decode cX8_count 59 = .ok (.ireturn, 1) := by decide +kernel
theorem dX8_count_60 : decode cX8_count 60 = .ok (.aload_n 0, 1) := by decide +kernel
theorem dX8_count_61 : decode cX8_count 61 = .ok (.getfield 16, 3) := by decide +kernel
theorem dX8_count_64 : decode cX8_count 64 = .ok (.getfield 70, 3) := by decide +kernel
theorem dX8_count_67 : decode cX8_count 67 = .ok (.getfield 74, 3) := by decide +kernel
theorem dX8_count_70 : decode cX8_count 70 = .ok (.ireturn, 1) := by decide +kernel
theorem dX8_count_71 : decode cX8_count 71 = .ok (.aload_n 0, 1) := by decide +kernel
theorem dX8_count_72 : decode cX8_count 72 = .ok (.getfield 16, 3) := by decide +kernel
theorem dX8_count_75 : decode cX8_count 75 = .ok (.getfield 29, 3) := by decide +kernel
theorem dX8_count_78 : decode cX8_count 78 = .ok (.getfield 325, 3) := by decide +kernel
theorem dX8_count_81 : decode cX8_count 81 = .ok (.ireturn, 1) := by decide +kernel
theorem dX8_count_82 : decode cX8_count 82 = .ok (.aload_n 0, 1) := by decide +kernel
theorem dX8_count_83 : decode cX8_count 83 = .ok (.getfield 16, 3) := by decide +kernel
theorem dX8_count_86 : decode cX8_count 86 = .ok (.getfield 29, 3) := by decide +kernel
theorem dX8_count_89 : decode cX8_count 89 = .ok (.getfield 325, 3) := by decide +kernel
theorem dX8_count_92 : decode cX8_count 92 = .ok (.aload_n 0, 1) := by decide +kernel
theorem dX8_count_93 : decode cX8_count 93 = .ok (.getfield 16, 3) := by decide +kernel
theorem dX8_count_96 : decode cX8_count 96 = .ok (.getfield 29, 3) := by decide +kernel
theorem dX8_count_99 : decode cX8_count 99 = .ok (.getfield 328, 3) := by decide +kernel
theorem dX8_count_102 : decode cX8_count 102 = .ok (.isub, 1) := by decide +kernel
theorem dX8_count_103 : decode cX8_count 103 = .ok (.ireturn, 1) := by decide +kernel
theorem dX8_count_104 : decode cX8_count 104 = .ok (.aload_n 0, 1) := by decide +kernel
theorem dX8_count_105 : decode cX8_count 105 = .ok (.getfield 16, 3) := by decide +kernel
theorem dX8_count_108 : decode cX8_count 108 = .ok (.getfield 255, 3) := by decide +kernel
theorem dX8_count_111 : decode cX8_count 111 = .ok (.ireturn, 1) := by decide +kernel
theorem dX8_count_112 : decode cX8_count 112 = .ok (.aload_n 0, 1) := by decide +kernel
theorem dX8_count_113 : decode cX8_count 113 = .ok (.getfield 16, 3) := by decide +kernel
theorem dX8_count_116 : decode cX8_count 116 = .ok (.getfield 193, 3) := by decide +kernel
theorem dX8_count_119 : decode cX8_count 119 = .ok (.ireturn, 1) := by decide +kernel
theorem dX8_count_120 : decode cX8_count 120 = .ok (.aload_n 0, 1) := by decide +kernel
theorem dX8_count_121 : decode cX8_count 121 = .ok (.getfield 16, 3) := by decide +kernel
theorem dX8_count_124 : decode cX8_count 124 = .ok (.getfield 316, 3) := by decide +kernel
theorem dX8_count_127 : decode cX8_count 127 = .ok (.ireturn, 1) := by decide +kernel
theorem dX8_count_128 : decode cX8_count 128 = .ok (.aload_n 0, 1) := by decide +kernel
theorem dX8_count_129 : decode cX8_count 129 = .ok (.getfield 59, 3) := by decide +kernel
theorem dX8_count_132 : decode cX8_count 132 = .ok (.getfield 292, 3) := by decide +kernel
theorem dX8_count_135 : decode cX8_count 135 = .ok (.ireturn, 1) := by decide +kernel
theorem dX8_count_136 : decode cX8_count 136 = .ok (.aload_n 0, 1) := by decide +kernel
theorem dX8_count_137 : decode cX8_count 137 = .ok (.getfield 16, 3) := by decide +kernel
theorem dX8_count_140 : decode cX8_count 140 = .ok (.getfield 282, 3) := by decide +kernel
theorem dX8_count_143 : decode cX8_count 143 = .ok (.ireturn, 1) := by decide +kernel
theorem dX8_count_144 : decode cX8_count 144 = .ok (.aload_n 0, 1) := by decide +kernel
theorem dX8_count_145 : decode cX8_count 145 = .ok (.iconst 1, 1) := by decide +kernel
theorem dX8_count_146 : decode cX8_count 146 = .ok (.invokevirtual 79, 3) := by decide +kernel
theorem dX8_count_149 : decode cX8_count 149 = .ok (.ireturn, 1) := by decide +kernel
set_option maxRecDepth 20000 in
theorem ggX8_told_X8_isOutside : GoodIn wsX8_told wsX8_isOutside := goodIn_r _ [5] (by decide +kernel) (by decide +kernel)
set_option maxRecDepth 20000 in
theorem gX8_told_X8_isOutside : GoodIn wsX8_told (va_wsS RX8 87 yX8_isOutside wsX8_isOutside) := goodIn_app (goodIn_of _ (by decide +kernel)) ggX8_told_X8_isOutside
set_option maxRecDepth 20000 in
theorem ggX8_told_X8_refuse : GoodIn wsX8_told wsX8_refuse := goodIn_r _ [9, 1, 10, 11, 12, 13, 14, 15, 16, 17, 18, 19, 20, 21] (by decide +kernel) (by decide +kernel)
set_option maxRecDepth 20000 in
theorem gX8_told_X8_refuse : GoodIn wsX8_told (wsV RX8 79 RX8 yX8_refuse wsX8_refuse) := goodIn_app (goodIn_of _ (by decide +kernel)) ggX8_told_X8_refuse
theorem dX8_told_0 : decode cX8_told 0 = .ok (.iload_n 1, 1) := by decide +kernel
theorem dX8_told_1 : decode cX8_told 1 = .ok (.iconst 1, 1) := by decide +kernel
theorem dX8_told_2 : decode cX8_told 2 = .ok (.iconst 5, 1) := by decide +kernel
theorem dX8_told_3 : decode cX8_told 3 = .ok (.invokestatic 87, 3) := by decide +kernel
theorem dX8_told_6 : decode cX8_told 6 = .ok (.ifCond .eq 11, 3) := by decide +kernel
theorem dX8_told_9 : decode cX8_told 9 = .ok (.aload_n 0, 1) := by decide +kernel
theorem dX8_told_10 : decode cX8_told 10 = .ok (.iconst 1, 1) := by decide +kernel
theorem dX8_told_11 : decode cX8_told 11 = .ok (.invokevirtual 79, 3) := by decide +kernel
theorem dX8_told_14 : decode cX8_told 14 = .ok (.goto 9, 3) := by decide +kernel
theorem dX8_told_17 : decode cX8_told 17 = .ok (.aload_n 0, 1) := by decide +kernel
theorem dX8_told_18 : decode cX8_told 18 = .ok (.getfield 9, 3) := by decide +kernel
theorem dX8_told_21 : decode cX8_told 21 = .ok (.iload_n 1, 1) := by decide +kernel
theorem dX8_told_22 : decode cX8_told 22 = .ok (.iaload, 1) := by decide +kernel
theorem dX8_told_23 : decode cX8_told 23 = .ok (.ireturn, 1) := by decide +kernel
theorem dX8_refuse_0 : decode cX8_refuse 0 = .ok (.aload_n 0, 1) := by decide +kernel
theorem dX8_refuse_1 : decode cX8_refuse 1 = .ok (.getfield 9, 3) := by decide +kernel
theorem dX8_refuse_4 : decode cX8_refuse 4 = .ok (.iload_n 1, 1) := by decide +kernel
theorem dX8_refuse_5 : decode cX8_refuse 5 = .ok (.dup2, 1) := by decide +kernel
theorem dX8_refuse_6 : decode cX8_refuse 6 = .ok (.iaload, 1) := by decide +kernel
theorem dX8_refuse_7 : decode cX8_refuse 7 = .ok (.iconst 1, 1) := by decide +kernel
theorem dX8_refuse_8 : decode cX8_refuse 8 = .ok (.iadd, 1) := by decide +kernel
theorem dX8_refuse_9 : decode cX8_refuse 9 = .ok (.iastore, 1) := by decide +kernel
theorem dX8_refuse_10 : decode cX8_refuse 10 = .ok (.ldc_w 331, 3) := by decide +kernel
theorem dX8_refuse_13 : decode cX8_refuse 13 = .ok (.iload_n 1, 1) := by decide +kernel
theorem dX8_refuse_14 : decode cX8_refuse 14 = .ok (.isub, 1) := by decide +kernel
theorem dX8_refuse_15 : decode cX8_refuse 15 = .ok (.ireturn, 1) := by decide +kernel
theorem dX8_isOutside_0 : decode cX8_isOutside 0 = .ok (.iload_n 0, 1) := by decide +kernel
theorem dX8_isOutside_1 : decode cX8_isOutside 1 = .ok (.iload_n 1, 1) := by decide +kernel
theorem dX8_isOutside_2 : decode cX8_isOutside 2 = .ok (.if_icmp .lt 8, 3) := by decide +kernel
theorem dX8_isOutside_5 : decode cX8_isOutside 5 = .ok (.iload_n 0, 1) := by decide +kernel
theorem dX8_isOutside_6 : decode cX8_isOutside 6 = .ok (.iload_n 2, 1) := by decide +kernel
theorem dX8_isOutside_7 : decode cX8_isOutside 7 = .ok (.if_icmp .le 7, 3) := by decide +kernel
theorem dX8_isOutside_10 : decode cX8_isOutside 10 = .ok (.iconst 1, 1) := by decide +kernel
theorem dX8_isOutside_11 : decode cX8_isOutside 11 = .ok (.goto 4, 3) := by decide +kernel
theorem dX8_isOutside_14 : decode cX8_isOutside 14 = .ok (.iconst 0, 1) := by decide +kernel
theorem dX8_isOutside_15 : decode cX8_isOutside 15 = .ok (.ireturn, 1) := by decide +kernel
set_option maxRecDepth 20000 in
theorem ggX8_isPlace_X8_isOutside : GoodIn wsX8_isPlace wsX8_isOutside := goodIn_r _ [7] (by decide +kernel) (by decide +kernel)
set_option maxRecDepth 20000 in
theorem gX8_isPlace_X8_isOutside : GoodIn wsX8_isPlace (va_wsS RX8 87 yX8_isOutside wsX8_isOutside) := goodIn_app (goodIn_of _ (by decide +kernel)) ggX8_isPlace_X8_isOutside
theorem dX8_isPlace_0 : decode cX8_isPlace 0 = .ok (.iload_n 1, 1) := by decide +kernel
theorem dX8_isPlace_1 : decode cX8_isPlace 1 = .ok (.iconst 0, 1) := by decide +kernel
theorem dX8_isPlace_2 : decode cX8_isPlace 2 = .ok (.aload_n 0, 1) := by decide +kernel
theorem dX8_isPlace_3 : decode cX8_isPlace 3 = .ok (.getfield 16, 3) := by decide +kernel
theorem dX8_isPlace_6 : decode cX8_isPlace 6 = .ok (.getfield 70, 3) := by decide +kernel
theorem dX8_isPlace_9 : decode cX8_isPlace 9 = .ok (.getfield 74, 3) := by decide +kernel
theorem dX8_isPlace_12 : decode cX8_isPlace 12 = .ok (.iconst 1, 1) := by decide +kernel
theorem dX8_isPlace_13 : decode cX8_isPlace 13 = .ok (.isub, 1) := by decide +kernel
theorem dX8_isPlace_14 : decode cX8_isPlace 14 = .ok (.invokestatic 87, 3) := by decide +kernel
theorem dX8_isPlace_17 : decode cX8_isPlace 17 = .ok (.ifCond .ne 7, 3) := by decide +kernel
theorem dX8_isPlace_20 : decode cX8_isPlace 20 = .ok (.iconst 1, 1) := by decide +kernel
theorem dX8_isPlace_21 : decode cX8_isPlace 21 = .ok (.goto 4, 3) := by decide +kernel
theorem dX8_isPlace_24 : decode cX8_isPlace 24 = .ok (.iconst 0, 1) := by decide +kernel
theorem dX8_isPlace_25 : decode cX8_isPlace 25 = .ok (.ireturn, 1) := by decide +kernel
set_option maxRecDepth 20000 in
theorem ggX8_areTwo_X8_isPlace : GoodIn wsX8_areTwo wsX8_isPlace := goodIn_r _ [5, 6, 7, 8, 9, 10, 4, 11, 12, 13, 14, 15, 16, 17, 18, 19, 20, 21, 22, 23, 24, 25, 26, 27, 28, 29, 30, 31, 32, 33, 34, 35, 36, 37, 38, 39, 40, 41, 42] (by decide +kernel) (by decide +kernel)
set_option maxRecDepth 20000 in
theorem gX8_areTwo_X8_isPlace : GoodIn wsX8_areTwo (wsV RX8 95 RX8 yX8_isPlace wsX8_isPlace) := goodIn_app (goodIn_of _ (by decide +kernel)) ggX8_areTwo_X8_isPlace
theorem dX8_areTwo_0 : decode cX8_areTwo 0 = .ok (.aload_n 0, 1) := by decide +kernel
theorem dX8_areTwo_1 : decode cX8_areTwo 1 = .ok (.iload_n 1, 1) := by decide +kernel
theorem dX8_areTwo_2 : decode cX8_areTwo 2 = .ok (.invokevirtual 95, 3) := by decide +kernel
theorem dX8_areTwo_5 : decode cX8_areTwo 5 = .ok (.ifCond .eq 20, 3) := by decide +kernel
theorem dX8_areTwo_8 : decode cX8_areTwo 8 = .ok (.aload_n 0, 1) := by decide +kernel
theorem dX8_areTwo_9 : decode cX8_areTwo 9 = .ok (.iload_n 2, 1) := by decide +kernel
theorem dX8_areTwo_10 : decode cX8_areTwo 10 = .ok (.invokevirtual 95, 3) := by decide +kernel
theorem dX8_areTwo_13 : decode cX8_areTwo 13 = .ok (.ifCond .eq 12, 3) := by decide +kernel
theorem dX8_areTwo_16 : decode cX8_areTwo 16 = .ok (.iload_n 1, 1) := by decide +kernel
theorem dX8_areTwo_17 : decode cX8_areTwo 17 = .ok (.iload_n 2, 1) := by decide +kernel
theorem dX8_areTwo_18 : decode cX8_areTwo 18 = .ok (.if_icmp .eq 7, 3) := by decide +kernel
theorem dX8_areTwo_21 : decode cX8_areTwo 21 = .ok (.iconst 1, 1) := by decide +kernel
theorem dX8_areTwo_22 : decode cX8_areTwo 22 = .ok (.goto 4, 3) := by decide +kernel
theorem dX8_areTwo_25 : decode cX8_areTwo 25 = .ok (.iconst 0, 1) := by decide +kernel
theorem dX8_areTwo_26 : decode cX8_areTwo 26 = .ok (.ireturn, 1) := by decide +kernel
set_option maxRecDepth 20000 in
theorem ggX8_isPair_X8_areTwo : GoodIn wsX8_isPair wsX8_areTwo := goodIn_r _ [5, 6, 7, 8, 4, 9, 10, 11, 12, 13, 14, 15, 16, 17, 18, 19, 20, 21, 22, 23, 24, 25, 26, 27, 28, 29, 30, 31, 32, 33, 34, 35, 36, 37, 38, 39, 40, 41, 42, 43, 44, 45, 46] (by decide +kernel) (by decide +kernel)
set_option maxRecDepth 20000 in
theorem gX8_isPair_X8_areTwo : GoodIn wsX8_isPair (wsV RX8 83 RX8 yX8_areTwo wsX8_areTwo) := goodIn_app (goodIn_of _ (by decide +kernel)) ggX8_isPair_X8_areTwo
theorem dX8_isPair_0 : decode cX8_isPair 0 = .ok (.iload_n 1, 1) := by decide +kernel
theorem dX8_isPair_1 : decode cX8_isPair 1 = .ok (.ifCond .lt 22, 3) := by decide +kernel
theorem dX8_isPair_4 : decode cX8_isPair 4 = .ok (.aload_n 0, 1) := by decide +kernel
theorem dX8_isPair_5 : decode cX8_isPair 5 = .ok (.iload_n 1, 1) := by decide +kernel
theorem dX8_isPair_6 : decode cX8_isPair 6 = .ok (.bipush 10, 2) := by decide +kernel
theorem dX8_isPair_8 : decode cX8_isPair 8 = .ok (.idiv, 1) := by decide +kernel
theorem dX8_isPair_9 : decode cX8_isPair 9 = .ok (.iload_n 1, 1) := by decide +kernel
theorem dX8_isPair_10 : decode cX8_isPair 10 = .ok (.bipush 10, 2) := by decide +kernel
theorem dX8_isPair_12 : decode cX8_isPair 12 = .ok (.irem, 1) := by decide +kernel
theorem dX8_isPair_13 : decode cX8_isPair 13 = .ok (.invokevirtual 83, 3) := by decide +kernel
theorem dX8_isPair_16 : decode cX8_isPair 16 = .ok (.ifCond .eq 7, 3) := by decide +kernel
theorem dX8_isPair_19 : decode cX8_isPair 19 = .ok (.iconst 1, 1) := by decide +kernel
theorem dX8_isPair_20 : decode cX8_isPair 20 = .ok (.goto 4, 3) := by decide +kernel
theorem dX8_isPair_23 : decode cX8_isPair 23 = .ok (.iconst 0, 1) := by decide +kernel
theorem dX8_isPair_24 : decode cX8_isPair 24 = .ok (.ireturn, 1) := by decide +kernel
set_option maxRecDepth 20000 in
theorem ggX8_isPact_X8_isOutside : GoodIn wsX8_isPact wsX8_isOutside := goodIn_r _ [4] (by decide +kernel) (by decide +kernel)
set_option maxRecDepth 20000 in
theorem gX8_isPact_X8_isOutside : GoodIn wsX8_isPact (va_wsS RX8 87 yX8_isOutside wsX8_isOutside) := goodIn_app (goodIn_of _ (by decide +kernel)) ggX8_isPact_X8_isOutside
theorem dX8_isPact_0 : decode cX8_isPact 0 = .ok (.iload_n 0, 1) := by decide +kernel
theorem dX8_isPact_1 : decode cX8_isPact 1 = .ok (.iconst 0, 1) := by decide +kernel
theorem dX8_isPact_2 : decode cX8_isPact 2 = .ok (.iconst 3, 1) := by decide +kernel
theorem dX8_isPact_3 : decode cX8_isPact 3 = .ok (.invokestatic 87, 3) := by decide +kernel
theorem dX8_isPact_6 : decode cX8_isPact 6 = .ok (.ifCond .ne 7, 3) := by decide +kernel
theorem dX8_isPact_9 : decode cX8_isPact 9 = .ok (.iconst 1, 1) := by decide +kernel
theorem dX8_isPact_10 : decode cX8_isPact 10 = .ok (.goto 4, 3) := by decide +kernel
theorem dX8_isPact_13 : decode cX8_isPact 13 = .ok (.iconst 0, 1) := by decide +kernel
theorem dX8_isPact_14 : decode cX8_isPact 14 = .ok (.ireturn, 1) := by decide +kernel
set_option maxRecDepth 20000 in
theorem ggX8_isWord_X8_isOutside : GoodIn wsX8_isWord wsX8_isOutside := goodIn_r _ [7] (by decide +kernel) (by decide +kernel)
set_option maxRecDepth 20000 in
theorem gX8_isWord_X8_isOutside : GoodIn wsX8_isWord (va_wsS RX8 87 yX8_isOutside wsX8_isOutside) := goodIn_app (goodIn_of _ (by decide +kernel)) ggX8_isWord_X8_isOutside
theorem dX8_isWord_0 : decode cX8_isWord 0 = .ok (.iload_n 1, 1) := by decide +kernel
theorem dX8_isWord_1 : decode cX8_isWord 1 = .ok (.iconst 0, 1) := by decide +kernel
theorem dX8_isWord_2 : decode cX8_isWord 2 = .ok (.aload_n 0, 1) := by decide +kernel
theorem dX8_isWord_3 : decode cX8_isWord 3 = .ok (.getfield 16, 3) := by decide +kernel
theorem dX8_isWord_6 : decode cX8_isWord 6 = .ok (.getfield 29, 3) := by decide +kernel
theorem dX8_isWord_9 : decode cX8_isWord 9 = .ok (.getfield 325, 3) := by decide +kernel
theorem dX8_isWord_12 : decode cX8_isWord 12 = .ok (.iconst 1, 1) := by decide +kernel
theorem dX8_isWord_13 : decode cX8_isWord 13 = .ok (.isub, 1) := by decide +kernel
theorem dX8_isWord_14 : decode cX8_isWord 14 = .ok (.invokestatic 87, 3) := by decide +kernel
theorem dX8_isWord_17 : decode cX8_isWord 17 = .ok (.ifCond .ne 7, 3) := by decide +kernel
theorem dX8_isWord_20 : decode cX8_isWord 20 = .ok (.iconst 1, 1) := by decide +kernel
theorem dX8_isWord_21 : decode cX8_isWord 21 = .ok (.goto 4, 3) := by decide +kernel
theorem dX8_isWord_24 : decode cX8_isWord 24 = .ok (.iconst 0, 1) := by decide +kernel
theorem dX8_isWord_25 : decode cX8_isWord 25 = .ok (.ireturn, 1) := by decide +kernel
set_option maxRecDepth 20000 in
theorem ggX8_isSheet_X8_isOutside : GoodIn wsX8_isSheet wsX8_isOutside := goodIn_r _ [4] (by decide +kernel) (by decide +kernel)
set_option maxRecDepth 20000 in
theorem gX8_isSheet_X8_isOutside : GoodIn wsX8_isSheet (va_wsS RX8 87 yX8_isOutside wsX8_isOutside) := goodIn_app (goodIn_of _ (by decide +kernel)) ggX8_isSheet_X8_isOutside
theorem dX8_isSheet_0 : decode cX8_isSheet 0 = .ok (.iload_n 0, 1) := by decide +kernel
theorem dX8_isSheet_1 : decode cX8_isSheet 1 = .ok (.iconst 0, 1) := by decide +kernel
theorem dX8_isSheet_2 : decode cX8_isSheet 2 = .ok (.iconst 3, 1) := by decide +kernel
theorem dX8_isSheet_3 : decode cX8_isSheet 3 = .ok (.invokestatic 87, 3) := by decide +kernel
theorem dX8_isSheet_6 : decode cX8_isSheet 6 = .ok (.ifCond .ne 7, 3) := by decide +kernel
theorem dX8_isSheet_9 : decode cX8_isSheet 9 = .ok (.iconst 1, 1) := by decide +kernel
theorem dX8_isSheet_10 : decode cX8_isSheet 10 = .ok (.goto 4, 3) := by decide +kernel
theorem dX8_isSheet_13 : decode cX8_isSheet 13 = .ok (.iconst 0, 1) := by decide +kernel
theorem dX8_isSheet_14 : decode cX8_isSheet 14 = .ok (.ireturn, 1) := by decide +kernel
set_option maxRecDepth 20000 in
theorem ggX8_isPart_X8_isOutside : GoodIn wsX8_isPart wsX8_isOutside := goodIn_r _ [4] (by decide +kernel) (by decide +kernel)
set_option maxRecDepth 20000 in
theorem gX8_isPart_X8_isOutside : GoodIn wsX8_isPart (va_wsS RX8 87 yX8_isOutside wsX8_isOutside) := goodIn_app (goodIn_of _ (by decide +kernel)) ggX8_isPart_X8_isOutside
theorem dX8_isPart_0 : decode cX8_isPart 0 = .ok (.iload_n 0, 1) := by decide +kernel
theorem dX8_isPart_1 : decode cX8_isPart 1 = .ok (.ifCond .lt 30, 3) := by decide +kernel
theorem dX8_isPart_4 : decode cX8_isPart 4 = .ok (.iload_n 0, 1) := by decide +kernel
theorem dX8_isPart_5 : decode cX8_isPart 5 = .ok (.bipush 10, 2) := by decide +kernel
theorem dX8_isPart_7 : decode cX8_isPart 7 = .ok (.irem, 1) := by decide +kernel
theorem dX8_isPart_8 : decode cX8_isPart 8 = .ok (.iconst 1, 1) := by decide +kernel
theorem dX8_isPart_9 : decode cX8_isPart 9 = .ok (.iload_n 1, 1) := by decide +kernel
theorem dX8_isPart_10 : decode cX8_isPart 10 = .ok (.invokestatic 87, 3) := by decide +kernel
theorem dX8_isPart_13 : decode cX8_isPart 13 = .ok (.ifCond .ne 18, 3) := by decide +kernel
theorem dX8_isPart_16 : decode cX8_isPart 16 = .ok (.iload_n 0, 1) := by decide +kernel
theorem dX8_isPart_17 : decode cX8_isPart 17 = .ok (.bipush 10, 2) := by decide +kernel
theorem dX8_isPart_19 : decode cX8_isPart 19 = .ok (.idiv, 1) := by decide +kernel
theorem dX8_isPart_20 : decode cX8_isPart 20 = .ok (.iload_n 0, 1) := by decide +kernel
theorem dX8_isPart_21 : decode cX8_isPart 21 = .ok (.bipush 10, 2) := by decide +kernel
theorem dX8_isPart_23 : decode cX8_isPart 23 = .ok (.irem, 1) := by decide +kernel
theorem dX8_isPart_24 : decode cX8_isPart 24 = .ok (.if_icmp .gt 7, 3) := by decide +kernel
theorem dX8_isPart_27 : decode cX8_isPart 27 = .ok (.iconst 1, 1) := by decide +kernel
theorem dX8_isPart_28 : decode cX8_isPart 28 = .ok (.goto 4, 3) := by decide +kernel
theorem dX8_isPart_31 : decode cX8_isPart 31 = .ok (.iconst 0, 1) := by decide +kernel
theorem dX8_isPart_32 : decode cX8_isPart 32 = .ok (.ireturn, 1) := by decide +kernel
theorem dX8_isUnder_0 : decode cX8_isUnder 0 = .ok (.iload_n 0, 1) := by decide +kernel
theorem dX8_isUnder_1 : decode cX8_isUnder 1 = .ok (.istore_n 2, 1) := by decide +kernel
theorem dX8_isUnder_2 : decode cX8_isUnder 2 = .ok (.iconst 0, 1) := by decide +kernel
theorem dX8_isUnder_3 : decode cX8_isUnder 3 = .ok (.istore_n 3, 1) := by decide +kernel
theorem dX8_isUnder_4 : decode cX8_isUnder 4 = .ok (.iload_n 3, 1) := by decide +kernel
theorem dX8_isUnder_5 : decode cX8_isUnder 5 = .ok (.getstatic 332, 3) := by decide +kernel
theorem dX8_isUnder_8 : decode cX8_isUnder 8 = .ok (.arraylength, 1) := by decide +kernel
theorem dX8_isUnder_9 : decode cX8_isUnder 9 = .ok (.if_icmp .ge 24, 3) := by decide +kernel
theorem dX8_isUnder_12 : decode cX8_isUnder 12 = .ok (.iload_n 2, 1) := by decide +kernel
theorem dX8_isUnder_13 : decode cX8_isUnder 13 = .ok (.ifCond .le 20, 3) := by decide +kernel
theorem dX8_isUnder_16 : decode cX8_isUnder 16 = .ok (.iload_n 2, 1) := by decide +kernel
theorem dX8_isUnder_17 : decode cX8_isUnder 17 = .ok (.iload_n 1, 1) := by decide +kernel
theorem dX8_isUnder_18 : decode cX8_isUnder 18 = .ok (.if_icmp .eq 15, 3) := by decide +kernel
theorem dX8_isUnder_21 : decode cX8_isUnder 21 = .ok (.getstatic 332, 3) := by decide +kernel
theorem dX8_isUnder_24 : decode cX8_isUnder 24 = .ok (.iload_n 2, 1) := by decide +kernel
theorem dX8_isUnder_25 : decode cX8_isUnder 25 = .ok (.iaload, 1) := by decide +kernel
theorem dX8_isUnder_26 : decode cX8_isUnder 26 = .ok (.istore_n 2, 1) := by decide +kernel
theorem dX8_isUnder_27 : decode cX8_isUnder 27 = .ok (.iinc 3 1, 3) := by decide +kernel
theorem dX8_isUnder_30 : decode cX8_isUnder 30 = .ok (.goto (-26), 3) := by decide +kernel
theorem dX8_isUnder_33 : decode cX8_isUnder 33 = .ok (.iload_n 2, 1) := by decide +kernel
theorem dX8_isUnder_34 : decode cX8_isUnder 34 = .ok (.iload_n 1, 1) := by decide +kernel
theorem dX8_isUnder_35 : decode cX8_isUnder 35 = .ok (.if_icmp .ne 7, 3) := by decide +kernel
theorem dX8_isUnder_38 : decode cX8_isUnder 38 = .ok (.iconst 1, 1) := by decide +kernel
theorem dX8_isUnder_39 : decode cX8_isUnder 39 = .ok (.goto 4, 3) := by decide +kernel
theorem dX8_isUnder_42 : decode cX8_isUnder 42 = .ok (.iconst 0, 1) := by decide +kernel
theorem dX8_isUnder_43 : decode cX8_isUnder 43 = .ok (.ireturn, 1) := by decide +kernel
set_option maxRecDepth 20000 in
theorem ggX8_faultOfWord_X8_isOutside : GoodIn wsX8_faultOfWord wsX8_isOutside := goodIn_r _ [8] (by decide +kernel) (by decide +kernel)
set_option maxRecDepth 20000 in
theorem gX8_faultOfWord_X8_isOutside : GoodIn wsX8_faultOfWord (va_wsS RX8 87 yX8_isOutside wsX8_isOutside) := goodIn_app (goodIn_of _ (by decide +kernel)) ggX8_faultOfWord_X8_isOutside
set_option maxRecDepth 20000 in
theorem ggX8_faultOfWord_X8_isPair : GoodIn wsX8_faultOfWord wsX8_isPair := goodIn_r _ [12, 13, 14, 15, 7, 16, 17, 18, 19, 20, 1, 2, 21, 5, 6, 8, 32, 33, 34, 35, 36, 37, 38, 39, 40, 41, 42, 43, 44, 45, 46, 47, 48, 49, 50, 51, 52, 53, 54, 55, 56, 57, 58, 59, 71, 72, 73] (by decide +kernel) (by decide +kernel)
set_option maxRecDepth 20000 in
theorem gX8_faultOfWord_X8_isPair : GoodIn wsX8_faultOfWord (wsV RX8 237 RX8 yX8_isPair wsX8_isPair) := goodIn_app (goodIn_of _ (by decide +kernel)) ggX8_faultOfWord_X8_isPair
set_option maxRecDepth 20000 in
theorem ggX8_faultOfWord_X8_isPact : GoodIn wsX8_faultOfWord wsX8_isPact := goodIn_r _ [24, 5, 6, 7, 8] (by decide +kernel) (by decide +kernel)
set_option maxRecDepth 20000 in
theorem gX8_faultOfWord_X8_isPact : GoodIn wsX8_faultOfWord (va_wsS RX8 178 yX8_isPact wsX8_isPact) := goodIn_app (goodIn_of _ (by decide +kernel)) ggX8_faultOfWord_X8_isPact
set_option maxRecDepth 20000 in
theorem ggX8_faultOfWord_X2_years : GoodIn wsX8_faultOfWord wsX2_years := goodIn_r _ [29, 30, 31, 71, 72, 73] (by decide +kernel) (by decide +kernel)
set_option maxRecDepth 20000 in
theorem gX8_faultOfWord_X2_years : GoodIn wsX8_faultOfWord (wsV RX8 99 RX2 yX2_years wsX2_years) := goodIn_app (goodIn_of _ (by decide +kernel)) ggX8_faultOfWord_X2_years
theorem dX8_faultOfWord_0 : decode cX8_faultOfWord 0 = .ok (.iload_n 1, 1) := by decide +kernel
theorem dX8_faultOfWord_1 : decode cX8_faultOfWord 1 = .ok (.iconst 0, 1) := by decide +kernel
theorem dX8_faultOfWord_2 : decode cX8_faultOfWord 2 = .ok (.bipush 6, 2) := by decide +kernel
theorem dX8_faultOfWord_4 : decode cX8_faultOfWord 4 = .ok (.invokestatic 87, 3) := by decide +kernel
theorem dX8_faultOfWord_7 : decode cX8_faultOfWord 7 = .ok (.ifCond .ne 18, 3) := by decide +kernel
theorem dX8_faultOfWord_10 : decode cX8_faultOfWord 10 = .ok (.aload_n 0, 1) := by decide +kernel
theorem dX8_faultOfWord_11 : decode cX8_faultOfWord 11 = .ok (.iload_n 2, 1) := by decide +kernel
theorem dX8_faultOfWord_12 : decode cX8_faultOfWord 12 = .ok (.invokevirtual 237, 3) := by decide +kernel
theorem dX8_faultOfWord_15 : decode cX8_faultOfWord 15 = .ok (.ifCond .eq 10, 3) := by decide +kernel
theorem dX8_faultOfWord_18 : decode cX8_faultOfWord 18 = .ok (.iload_n 3, 1) := by decide +kernel
theorem dX8_faultOfWord_19 : decode cX8_faultOfWord 19 = .ok (.invokestatic 178, 3) := by decide +kernel
theorem dX8_faultOfWord_22 : decode cX8_faultOfWord 22 = .ok (.ifCond .ne 5, 3) := by decide +kernel
theorem dX8_faultOfWord_25 : decode cX8_faultOfWord 25 = .ok (.iconst 1, 1) := by decide +kernel
theorem dX8_faultOfWord_26 : decode cX8_faultOfWord 26 = .ok (.ireturn, 1) := by decide +kernel
theorem dX8_faultOfWord_27 : decode cX8_faultOfWord 27 = .ok (.aload_n 0, 1) := by decide +kernel
theorem dX8_faultOfWord_28 : decode cX8_faultOfWord 28 = .ok (.getfield 16, 3) := by decide +kernel
theorem dX8_faultOfWord_31 : decode cX8_faultOfWord 31 = .ok (.getfield 70, 3) := by decide +kernel
theorem dX8_faultOfWord_34 : decode cX8_faultOfWord 34 = .ok (.iload_n 2, 1) := by decide +kernel
theorem dX8_faultOfWord_35 : decode cX8_faultOfWord 35 = .ok (.bipush 10, 2) := by decide +kernel
theorem dX8_faultOfWord_37 : decode cX8_faultOfWord 37 = .ok (.idiv, 1) := by decide +kernel
theorem dX8_faultOfWord_38 : decode cX8_faultOfWord 38 = .ok (.iload_n 2, 1) := by decide +kernel
theorem dX8_faultOfWord_39 : decode cX8_faultOfWord 39 = .ok (.bipush 10, 2) := by decide +kernel
theorem dX8_faultOfWord_41 : decode cX8_faultOfWord 41 = .ok (.irem, 1) := by decide +kernel
theorem dX8_faultOfWord_42 : decode cX8_faultOfWord 42 = .ok (.invokevirtual 99, 3) := by decide +kernel
theorem dX8_faultOfWord_45 : decode cX8_faultOfWord 45 = .ok (.ifCond .ge 5, 3) := by decide +kernel
theorem dX8_faultOfWord_48 : decode cX8_faultOfWord 48 = .ok (.iconst 2, 1) := by decide +kernel
theorem dX8_faultOfWord_49 : decode cX8_faultOfWord 49 = .ok (.ireturn, 1) := by decide +kernel
theorem dX8_faultOfWord_50 : decode cX8_faultOfWord 50 = .ok (.aload_n 0, 1) := by decide +kernel
theorem dX8_faultOfWord_51 : decode cX8_faultOfWord 51 = .ok (.getfield 16, 3) := by decide +kernel
theorem dX8_faultOfWord_54 : decode cX8_faultOfWord 54 = .ok (.getfield 29, 3) := by decide +kernel
theorem dX8_faultOfWord_57 : decode cX8_faultOfWord 57 = .ok (.getfield 325, 3) := by decide +kernel
theorem dX8_faultOfWord_60 : decode cX8_faultOfWord 60 = .ok (.bipush 80, 2) := by decide +kernel
theorem dX8_faultOfWord_62 : decode cX8_faultOfWord 62 = .ok (.if_icmp .lt 7, 3) := by decide +kernel
theorem dX8_faultOfWord_65 : decode cX8_faultOfWord 65 = .ok (.iconst 4, 1) := by decide +kernel
theorem dX8_faultOfWord_66 : decode cX8_faultOfWord 66 = .ok (.goto 4, 3) := by decide +kernel
theorem dX8_faultOfWord_69 : decode cX8_faultOfWord 69 = .ok (.iconst 0, 1) := by decide +kernel
theorem dX8_faultOfWord_70 : decode cX8_faultOfWord 70 = .ok (.ireturn, 1) := by decide +kernel
set_option maxRecDepth 20000 in
theorem ggX8_firstBound_X4_begin : GoodIn wsX8_firstBound wsX4_begin := goodIn_r _ [13, 14, 15, 16, 17, 18, 19, 20, 21, 22, 23, 24, 25, 26, 27, 12, 28, 29, 30, 31, 32, 33, 34, 35, 36, 37, 38, 39, 40, 41, 42, 43, 44, 129, 130, 131, 132, 133, 134, 135, 136, 137, 138, 139, 140, 141, 142, 143, 144, 145, 146, 147] (by decide +kernel) (by decide +kernel)
set_option maxRecDepth 20000 in
theorem gX8_firstBound_X4_begin : GoodIn wsX8_firstBound (wsV RX8 335 RX4 yX4_begin wsX4_begin) := goodIn_app (goodIn_of _ (by decide +kernel)) ggX8_firstBound_X4_begin
set_option maxRecDepth 20000 in
theorem ggX8_firstBound_X4_nextYear : GoodIn wsX8_firstBound wsX4_nextYear := goodIn_r _ [48, 29, 49, 31, 18, 50, 51, 19, 52, 4, 5, 6, 53, 54, 55, 12, 56, 30, 57, 58, 59, 60, 32, 129, 130, 131, 132, 133, 134, 135, 136, 137, 138, 139, 140, 141, 142, 143, 144, 145, 146, 147] (by decide +kernel) (by decide +kernel)
set_option maxRecDepth 20000 in
theorem gX8_firstBound_X4_nextYear : GoodIn wsX8_firstBound (wsV RX8 337 RX4 yX4_nextYear wsX4_nextYear) := goodIn_app (goodIn_of _ (by decide +kernel)) ggX8_firstBound_X4_nextYear
set_option maxRecDepth 20000 in
theorem ggX8_firstBound_X4_pass : GoodIn wsX8_firstBound wsX4_pass := goodIn_r _ [64, 29, 31, 18, 49, 51, 19, 65, 66, 67, 12, 68, 16, 17, 53, 54, 55, 56, 30, 69, 70, 71, 72, 73, 74, 20, 75, 76, 5, 77, 78, 79, 80, 36, 81, 82, 83, 84, 85, 86, 87, 25, 26, 27, 28, 14, 15, 32, 33, 34, 35, 37, 38, 39, 40, 41, 42, 43, 44, 57, 58, 59, 60, 88, 89, 90, 91, 92, 93, 94, 95, 96, 129, 130, 131, 132, 133, 134, 135, 136, 137, 138, 139, 140, 141, 142, 143, 144, 145, 146, 147] (by decide +kernel) (by decide +kernel)
set_option maxRecDepth 20000 in
theorem gX8_firstBound_X4_pass : GoodIn wsX8_firstBound (wsV RX8 346 RX4 yX4_pass wsX4_pass) := goodIn_app (goodIn_of _ (by decide +kernel)) ggX8_firstBound_X4_pass
set_option maxRecDepth 20000 in
theorem ggX8_firstBound_X4_isBound : GoodIn wsX8_firstBound wsX4_isBound := goodIn_r _ [100, 16, 129, 130, 131, 132, 133, 134, 135, 136] (by decide +kernel) (by decide +kernel)
set_option maxRecDepth 20000 in
theorem gX8_firstBound_X4_isBound : GoodIn wsX8_firstBound (wsV RX8 349 RX4 yX4_isBound wsX4_isBound) := goodIn_app (goodIn_of _ (by decide +kernel)) ggX8_firstBound_X4_isBound
theorem dX8_firstBound_0 : decode cX8_firstBound 0 = .ok (.aload_n 0, 1) := by decide +kernel
theorem dX8_firstBound_1 : decode cX8_firstBound 1 = .ok (.getfield 36, 3) := by decide +kernel
theorem dX8_firstBound_4 : decode cX8_firstBound 4 = .ok (.iload_n 1, 1) := by decide +kernel
theorem dX8_firstBound_5 : decode cX8_firstBound 5 = .ok (.iload_n 3, 1) := by decide +kernel
theorem dX8_firstBound_6 : decode cX8_firstBound 6 = .ok (.invokevirtual 335, 3) := by decide +kernel
theorem dX8_firstBound_9 : decode cX8_firstBound 9 = .ok (.aload_n 0, 1) := by decide +kernel
theorem dX8_firstBound_10 : decode cX8_firstBound 10 = .ok (.getfield 40, 3) := by decide +kernel
theorem dX8_firstBound_13 : decode cX8_firstBound 13 = .ok (.iload_n 2, 1) := by decide +kernel
theorem dX8_firstBound_14 : decode cX8_firstBound 14 = .ok (.iload_n 3, 1) := by decide +kernel
theorem dX8_firstBound_15 : decode cX8_firstBound 15 = .ok (.invokevirtual 335, 3) := by decide +kernel
theorem dX8_firstBound_18 : decode cX8_firstBound 18 = .ok (.iconst 0, 1) := by decide +kernel
theorem dX8_firstBound_19 : decode cX8_firstBound 19 = .ok (.istore 4, 2) := by decide +kernel
theorem dX8_firstBound_21 : decode cX8_firstBound 21 = .ok (.iload 4, 2) := by decide +kernel
theorem dX8_firstBound_23 : decode cX8_firstBound 23 = .ok (.sipush 160, 3) := by decide +kernel
theorem dX8_firstBound_26 : decode cX8_firstBound 26 = .ok (.if_icmp .gt 83, 3) := by decide +kernel
theorem dX8_firstBound_29 : decode cX8_firstBound 29 = .ok (.aload_n 0, 1) := by decide +kernel
theorem dX8_firstBound_30 : decode cX8_firstBound 30 = .ok (.getfield 36, 3) := by decide +kernel
theorem dX8_firstBound_33 : decode cX8_firstBound 33 = .ok (.invokevirtual 337, 3) := by decide +kernel
theorem dX8_firstBound_36 : decode cX8_firstBound 36 = .ok (.aload_n 0, 1) := by decide +kernel
theorem dX8_firstBound_37 : decode cX8_firstBound 37 = .ok (.getfield 40, 3) := by decide +kernel
theorem dX8_firstBound_40 : decode cX8_firstBound 40 = .ok (.invokevirtual 337, 3) := by decide +kernel
theorem dX8_firstBound_43 : decode cX8_firstBound 43 = .ok (.invokestatic 341, 3) := by decide +kernel
theorem dX8_firstBound_46 : decode cX8_firstBound 46 = .ok (.istore 5, 2) := by decide +kernel
theorem dX8_firstBound_48 : decode cX8_firstBound 48 = .ok (.iload 5, 2) := by decide +kernel
theorem dX8_firstBound_50 : decode cX8_firstBound 50 = .ok (.aload_n 0, 1) := by decide +kernel
theorem dX8_firstBound_51 : decode cX8_firstBound 51 = .ok (.getfield 16, 3) := by decide +kernel
theorem dX8_firstBound_54 : decode cX8_firstBound 54 = .ok (.getfield 156, 3) := by decide +kernel
theorem dX8_firstBound_57 : decode cX8_firstBound 57 = .ok (.if_icmp .le 5, 3) := by decide +kernel
theorem dX8_firstBound_60 : decode cX8_firstBound 60 = .ok (.iconst (-1), 1) := by decide +kernel
theorem dX8_firstBound_61 : decode cX8_firstBound 61 = .ok (.ireturn, 1) := by decide +kernel
theorem dX8_firstBound_62 : decode cX8_firstBound 62 = .ok (.aload_n 0, 1) := by decide +kernel
theorem dX8_firstBound_63 : decode cX8_firstBound 63 = .ok (.getfield 36, 3) := by decide +kernel
theorem dX8_firstBound_66 : decode cX8_firstBound 66 = .ok (.iload 5, 2) := by decide +kernel
theorem dX8_firstBound_68 : decode cX8_firstBound 68 = .ok (.invokevirtual 346, 3) := by decide +kernel
theorem dX8_firstBound_71 : decode cX8_firstBound 71 = .ok (.aload_n 0, 1) := by decide +kernel
theorem dX8_firstBound_72 : decode cX8_firstBound 72 = .ok (.getfield 40, 3) := by decide +kernel
theorem dX8_firstBound_75 : decode cX8_firstBound 75 = .ok (.iload 5, 2) := by decide +kernel
theorem dX8_firstBound_77 : decode cX8_firstBound 77 = .ok (.invokevirtual 346, 3) := by decide +kernel
theorem dX8_firstBound_80 : decode cX8_firstBound 80 = .ok (.aload_n 0, 1) := by decide +kernel
theorem dX8_firstBound_81 : decode cX8_firstBound 81 = .ok (.getfield 36, 3) := by decide +kernel
theorem dX8_firstBound_84 : decode cX8_firstBound 84 = .ok (.invokevirtual 349, 3) := by decide +kernel
theorem dX8_firstBound_87 : decode cX8_firstBound 87 = .ok (.ifCond .eq 16, 3) := by decide +kernel
theorem dX8_firstBound_90 : decode cX8_firstBound 90 = .ok (.aload_n 0, 1) := by decide +kernel
theorem dX8_firstBound_91 : decode cX8_firstBound 91 = .ok (.getfield 40, 3) := by decide +kernel
theorem dX8_firstBound_94 : decode cX8_firstBound 94 = .ok (.invokevirtual 349, 3) := by decide +kernel
theorem dX8_firstBound_97 : decode cX8_firstBound 97 = .ok (.ifCond .eq 6, 3) := by decide +kernel
theorem dX8_firstBound_100 : decode cX8_firstBound 100 = .ok (.iload 5, 2) := by decide +kernel
theorem dX8_firstBound_102 : decode cX8_firstBound 102 = .ok (.ireturn, 1) := by decide +kernel
theorem dX8_firstBound_103 : decode cX8_firstBound 103 = .ok (.iinc 4 1, 3) := by decide +kernel
theorem dX8_firstBound_106 : decode cX8_firstBound 106 = .ok (.goto (-85), 3) := by decide +kernel
theorem dX8_firstBound_109 : decode cX8_firstBound 109 = .ok (.iconst (-1), 1) := by decide +kernel
theorem dX8_firstBound_110 : decode cX8_firstBound 110 = .ok (.ireturn, 1) := by decide +kernel
theorem dX8_nameAll_0 : decode cX8_nameAll 0 = .ok (.aload_n 0, 1) := by decide +kernel
theorem dX8_nameAll_1 : decode cX8_nameAll 1 = .ok (.getfield 50, 3) := by decide +kernel
theorem dX8_nameAll_4 : decode cX8_nameAll 4 = .ok (.iconst 0, 1) := by decide +kernel
theorem dX8_nameAll_5 : decode cX8_nameAll 5 = .ok (.iload_n 1, 1) := by decide +kernel
theorem dX8_nameAll_6 : decode cX8_nameAll 6 = .ok (.iastore, 1) := by decide +kernel
theorem dX8_nameAll_7 : decode cX8_nameAll 7 = .ok (.aload_n 0, 1) := by decide +kernel
theorem dX8_nameAll_8 : decode cX8_nameAll 8 = .ok (.getfield 50, 3) := by decide +kernel
theorem dX8_nameAll_11 : decode cX8_nameAll 11 = .ok (.iconst 1, 1) := by decide +kernel
theorem dX8_nameAll_12 : decode cX8_nameAll 12 = .ok (.iload_n 2, 1) := by decide +kernel
theorem dX8_nameAll_13 : decode cX8_nameAll 13 = .ok (.iastore, 1) := by decide +kernel
theorem dX8_nameAll_14 : decode cX8_nameAll 14 = .ok (.aload_n 0, 1) := by decide +kernel
theorem dX8_nameAll_15 : decode cX8_nameAll 15 = .ok (.getfield 50, 3) := by decide +kernel
theorem dX8_nameAll_18 : decode cX8_nameAll 18 = .ok (.iconst 2, 1) := by decide +kernel
theorem dX8_nameAll_19 : decode cX8_nameAll 19 = .ok (.iload_n 3, 1) := by decide +kernel
theorem dX8_nameAll_20 : decode cX8_nameAll 20 = .ok (.iastore, 1) := by decide +kernel
theorem dX8_nameAll_21 : decode cX8_nameAll 21 = .ok (.aload_n 0, 1) := by decide +kernel
theorem dX8_nameAll_22 : decode cX8_nameAll 22 = .ok (.getfield 50, 3) := by decide +kernel
theorem dX8_nameAll_25 : decode cX8_nameAll 25 = .ok (.iconst 3, 1) := by decide +kernel
theorem dX8_nameAll_26 : decode cX8_nameAll 26 = .ok (.iload 4, 2) := by decide +kernel
theorem dX8_nameAll_28 : decode cX8_nameAll 28 = .ok (.iastore, 1) := by decide +kernel
theorem dX8_nameAll_29 : decode cX8_nameAll 29 = .ok (.aload_n 0, 1) := by decide +kernel
theorem dX8_nameAll_30 : decode cX8_nameAll 30 = .ok (.getfield 50, 3) := by decide +kernel
theorem dX8_nameAll_33 : decode cX8_nameAll 33 = .ok (.iconst 4, 1) := by decide +kernel
theorem dX8_nameAll_34 : decode cX8_nameAll 34 = .ok (.iload 5, 2) := by decide +kernel
theorem dX8_nameAll_36 : decode cX8_nameAll 36 = .ok (.iastore, 1) := by decide +kernel
theorem dX8_nameAll_37 : decode cX8_nameAll 37 = .ok (.return_, 1) := by decide +kernel
set_option maxRecDepth 20000 in
theorem ggX8_followOrder_X4_standsIn : GoodIn wsX8_followOrder wsX4_standsIn := goodIn_r _ [13, 14, 15, 16, 17, 12, 18, 19, 20, 21, 22, 23, 24, 25, 26, 27, 28, 29, 30, 31, 32, 33, 34, 35, 36, 37, 38, 39, 40, 41, 42, 43, 44, 45, 46, 47, 48, 49, 50, 51, 52, 53, 54, 55, 56, 57, 58, 59, 60, 61, 62, 63, 64, 65, 66, 67, 68, 69, 70, 71, 72, 73, 74, 75, 76, 77, 78, 79, 80, 81, 82, 83, 84, 85, 86, 87, 88, 89, 90, 91, 92, 93, 94, 95, 96, 97, 98, 99, 100, 101, 102, 103, 224, 225, 226, 227, 228, 229, 230, 231, 232, 233, 234, 235, 236, 237, 238, 239, 240, 241, 242] (by decide +kernel) (by decide +kernel)
set_option maxRecDepth 20000 in
theorem gX8_followOrder_X4_standsIn : GoodIn wsX8_followOrder (wsV RX8 184 RX4 yX4_standsIn wsX4_standsIn) := goodIn_app (goodIn_of _ (by decide +kernel)) ggX8_followOrder_X4_standsIn
set_option maxRecDepth 20000 in
theorem ggX8_followOrder_X0_arrived : GoodIn wsX8_followOrder wsX0_arrived := goodIn_r _ [107, 108, 109, 110, 111, 38, 39, 40, 41, 42, 43, 232, 233, 234, 235, 236, 237, 238, 239, 240, 241, 242] (by decide +kernel) (by decide +kernel)
set_option maxRecDepth 20000 in
theorem gX8_followOrder_X0_arrived : GoodIn wsX8_followOrder (wsV RX8 181 RX0 yX0_arrived wsX0_arrived) := goodIn_app (goodIn_of _ (by decide +kernel)) ggX8_followOrder_X0_arrived
set_option maxRecDepth 20000 in
theorem ggX8_followOrder_X0_latestKind : GoodIn wsX8_followOrder wsX0_latestKind := goodIn_r _ [115, 108, 109, 110, 116, 111, 38, 39, 40, 41, 42, 43, 232, 233, 234, 235, 236, 237, 238, 239, 240, 241, 242] (by decide +kernel) (by decide +kernel)
set_option maxRecDepth 20000 in
theorem gX8_followOrder_X0_latestKind : GoodIn wsX8_followOrder (wsV RX8 353 RX0 yX0_latestKind wsX0_latestKind) := goodIn_app (goodIn_of _ (by decide +kernel)) ggX8_followOrder_X0_latestKind
set_option maxRecDepth 20000 in
theorem ggX8_followOrder_X8_nameAll : GoodIn wsX8_followOrder wsX8_nameAll := goodIn_r _ [121, 7, 196, 197, 198, 199, 200, 201, 202, 203, 204, 205, 206] (by decide +kernel) (by decide +kernel)
set_option maxRecDepth 20000 in
theorem gX8_followOrder_X8_nameAll : GoodIn wsX8_followOrder (wsV RX8 223 RX8 yX8_nameAll wsX8_nameAll) := goodIn_app (goodIn_of _ (by decide +kernel)) ggX8_followOrder_X8_nameAll
set_option maxRecDepth 20000 in
theorem ggX8_followOrder_X5_reckon : GoodIn wsX8_followOrder wsX5_reckon := goodIn_r _ [126, 127, 128, 129, 130, 125, 131, 132, 133, 134, 243, 244] (by decide +kernel) (by decide +kernel)
set_option maxRecDepth 20000 in
theorem gX8_followOrder_X5_reckon : GoodIn wsX8_followOrder (wsV RX8 227 RX5 yX5_reckon wsX5_reckon) := goodIn_app (goodIn_of _ (by decide +kernel)) ggX8_followOrder_X5_reckon
set_option maxRecDepth 20000 in
theorem ggX8_followOrder_X8_faultOfWord : GoodIn wsX8_followOrder wsX8_faultOfWord := goodIn_r _ [138, 1, 139, 3, 140, 141, 142, 120, 143, 144, 145, 146, 147, 148, 149, 150, 151, 152, 153, 154, 155, 156, 157, 158, 159, 160, 161, 162, 163, 164, 165, 166, 196, 197, 198, 199, 200, 201, 202, 203, 204, 205, 206, 207, 208, 209, 210, 211, 212, 213, 214, 215, 216, 217, 218, 219, 220, 221, 222, 223, 232, 233, 234, 235, 236, 237, 238, 239, 240, 241, 242, 245, 246, 247] (by decide +kernel) (by decide +kernel)
set_option maxRecDepth 20000 in
theorem gX8_followOrder_X8_faultOfWord : GoodIn wsX8_followOrder (wsV RX8 121 RX8 yX8_faultOfWord wsX8_faultOfWord) := goodIn_app (goodIn_of _ (by decide +kernel)) ggX8_followOrder_X8_faultOfWord
set_option maxRecDepth 20000 in
theorem ggX8_followOrder_X7_send : GoodIn wsX8_followOrder wsX7_send := goodIn_r _ [171, 172, 173, 174, 175, 83, 58, 84, 176, 177, 178, 179, 180, 161, 162, 163, 164, 165, 166, 181, 182, 183, 40, 184, 185, 116, 48, 42, 43, 89, 109, 90, 186, 187, 188, 189, 190, 108, 110, 191, 111, 38, 39, 41, 192, 193, 194, 195, 207, 208, 209, 210, 211, 212, 213, 214, 215, 216, 217, 218, 219, 220, 221, 222, 223, 245, 246, 247, 232, 233, 234, 235, 236, 237, 238, 239, 240, 241, 242] (by decide +kernel) (by decide +kernel)
set_option maxRecDepth 20000 in
theorem gX8_followOrder_X7_send : GoodIn wsX8_followOrder (wsV RX8 124 RX7 yX7_send wsX7_send) := goodIn_app (goodIn_of _ (by decide +kernel)) ggX8_followOrder_X7_send
theorem dX8_followOrder_0 : decode cX8_followOrder 0 = .ok (.aload_n 0, 1) := by decide +kernel
theorem dX8_followOrder_1 : decode cX8_followOrder 1 = .ok (.getfield 16, 3) := by decide +kernel
theorem dX8_followOrder_4 : decode cX8_followOrder 4 = .ok (.getfield 231, 3) := by decide +kernel
theorem dX8_followOrder_7 : decode cX8_followOrder 7 = .ok (.iload_n 1, 1) := by decide +kernel
theorem dX8_followOrder_8 : decode cX8_followOrder 8 = .ok (.iaload, 1) := by decide +kernel
theorem dX8_followOrder_9 : decode cX8_followOrder 9 = .ok (.istore_n 2, 1) := by decide +kernel
theorem dX8_followOrder_10 : decode cX8_followOrder 10 = .ok (.iload_n 2, 1) := by decide +kernel
theorem dX8_followOrder_11 : decode cX8_followOrder 11 = .ok (.ifCond .ge 4, 3) := by decide +kernel
theorem dX8_followOrder_14 : decode cX8_followOrder 14 = .ok (.return_, 1) := by decide +kernel
theorem dX8_followOrder_15 : decode cX8_followOrder 15 = .ok (.bipush 10, 2) := by decide +kernel
theorem dX8_followOrder_17 : decode cX8_followOrder 17 = .ok (.iload_n 1, 1) := by decide +kernel
theorem dX8_followOrder_18 : decode cX8_followOrder 18 = .ok (.imul, 1) := by decide +kernel
theorem dX8_followOrder_19 : decode cX8_followOrder 19 = .ok (.iload_n 2, 1) := by decide +kernel
theorem dX8_followOrder_20 : decode cX8_followOrder 20 = .ok (.bipush 10, 2) := by decide +kernel
theorem dX8_followOrder_22 : decode cX8_followOrder 22 = .ok (.idiv, 1) := by decide +kernel
theorem dX8_followOrder_23 : decode cX8_followOrder 23 = .ok (.iadd, 1) := by decide +kernel
theorem dX8_followOrder_24 : decode cX8_followOrder 24 = .ok (.istore_n 3, 1) := by decide +kernel
theorem dX8_followOrder_25 : decode cX8_followOrder 25 = .ok (.iload_n 2, 1) := by decide +kernel
theorem dX8_followOrder_26 : decode cX8_followOrder 26 = .ok (.bipush 10, 2) := by decide +kernel
theorem dX8_followOrder_28 : decode cX8_followOrder 28 = .ok (.irem, 1) := by decide +kernel
theorem dX8_followOrder_29 : decode cX8_followOrder 29 = .ok (.istore 4, 2) := by decide +kernel
theorem dX8_followOrder_31 : decode cX8_followOrder 31 = .ok (.aload_n 0, 1) := by decide +kernel
theorem dX8_followOrder_32 : decode cX8_followOrder 32 = .ok (.getfield 16, 3) := by decide +kernel
theorem dX8_followOrder_35 : decode cX8_followOrder 35 = .ok (.getfield 29, 3) := by decide +kernel
theorem dX8_followOrder_38 : decode cX8_followOrder 38 = .ok (.astore 5, 2) := by decide +kernel
theorem dX8_followOrder_40 : decode cX8_followOrder 40 = .ok (.aload_n 0, 1) := by decide +kernel
theorem dX8_followOrder_41 : decode cX8_followOrder 41 = .ok (.aload_n 0, 1) := by decide +kernel
theorem dX8_followOrder_42 : decode cX8_followOrder 42 = .ok (.getfield 36, 3) := by decide +kernel
theorem dX8_followOrder_45 : decode cX8_followOrder 45 = .ok (.iload_n 1, 1) := by decide +kernel
theorem dX8_followOrder_46 : decode cX8_followOrder 46 = .ok (.iload 4, 2) := by decide +kernel
theorem dX8_followOrder_48 : decode cX8_followOrder 48 = .ok (.aload_n 0, 1) := by decide +kernel
theorem dX8_followOrder_49 : decode cX8_followOrder 49 = .ok (.getfield 16, 3) := by decide +kernel
theorem dX8_followOrder_52 : decode cX8_followOrder 52 = .ok (.getfield 156, 3) := by decide +kernel
theorem dX8_followOrder_55 : decode cX8_followOrder 55 = .ok (.invokevirtual 184, 3) := by decide +kernel
theorem dX8_followOrder_58 : decode cX8_followOrder 58 = .ok (.aload 5, 2) := by decide +kernel
theorem dX8_followOrder_60 : decode cX8_followOrder 60 = .ok (.iload_n 1, 1) := by decide +kernel
theorem dX8_followOrder_61 : decode cX8_followOrder 61 = .ok (.iload 4, 2) := by decide +kernel
theorem dX8_followOrder_63 : decode cX8_followOrder 63 = .ok (.aload_n 0, 1) := by decide +kernel
theorem dX8_followOrder_64 : decode cX8_followOrder 64 = .ok (.getfield 16, 3) := by decide +kernel
theorem dX8_followOrder_67 : decode cX8_followOrder 67 = .ok (.getfield 156, 3) := by decide +kernel
theorem dX8_followOrder_70 : decode cX8_followOrder 70 = .ok (.invokevirtual 181, 3) := by decide +kernel
theorem dX8_followOrder_73 : decode cX8_followOrder 73 = .ok (.aload 5, 2) := by decide +kernel
theorem dX8_followOrder_75 : decode cX8_followOrder 75 = .ok (.iload_n 1, 1) := by decide +kernel
theorem dX8_followOrder_76 : decode cX8_followOrder 76 = .ok (.iload 4, 2) := by decide +kernel
theorem dX8_followOrder_78 : decode cX8_followOrder 78 = .ok (.aload_n 0, 1) := by decide +kernel
theorem dX8_followOrder_79 : decode cX8_followOrder 79 = .ok (.getfield 16, 3) := by decide +kernel
theorem dX8_followOrder_82 : decode cX8_followOrder 82 = .ok (.getfield 156, 3) := by decide +kernel
theorem dX8_followOrder_85 : decode cX8_followOrder 85 = .ok (.invokevirtual 353, 3) := by decide +kernel
theorem dX8_followOrder_88 : decode cX8_followOrder 88 = .ok (.aload_n 0, 1) := by decide +kernel
theorem dX8_followOrder_89 : decode cX8_followOrder 89 = .ok (.getfield 16, 3) := by decide +kernel
theorem dX8_followOrder_92 : decode cX8_followOrder 92 = .ok (.getfield 156, 3) := by decide +kernel
theorem dX8_followOrder_95 : decode cX8_followOrder 95 = .ok (.iconst 0, 1) := by decide +kernel
theorem dX8_followOrder_96 : decode cX8_followOrder 96 = .ok (.invokevirtual 223, 3) := by decide +kernel
theorem dX8_followOrder_99 : decode cX8_followOrder 99 = .ok (.aload_n 0, 1) := by decide +kernel
theorem dX8_followOrder_100 : decode cX8_followOrder 100 = .ok (.getfield 16, 3) := by decide +kernel
theorem dX8_followOrder_103 : decode cX8_followOrder 103 = .ok (.getfield 207, 3) := by decide +kernel
theorem dX8_followOrder_106 : decode cX8_followOrder 106 = .ok (.iload_n 1, 1) := by decide +kernel
theorem dX8_followOrder_107 : decode cX8_followOrder 107 = .ok (.aaload, 1) := by decide +kernel
theorem dX8_followOrder_108 : decode cX8_followOrder 108 = .ok (.aload_n 0, 1) := by decide +kernel
theorem dX8_followOrder_109 : decode cX8_followOrder 109 = .ok (.getfield 50, 3) := by decide +kernel
theorem dX8_followOrder_112 : decode cX8_followOrder 112 = .ok (.aload_n 0, 1) := by decide +kernel
theorem dX8_followOrder_113 : decode cX8_followOrder 113 = .ok (.getfield 53, 3) := by decide +kernel
theorem dX8_followOrder_116 : decode cX8_followOrder 116 = .ok (.invokevirtual 227, 3) := by decide +kernel
theorem dX8_followOrder_119 : decode cX8_followOrder 119 = .ok (.istore 6, 2) := by decide +kernel
theorem dX8_followOrder_121 : decode cX8_followOrder 121 = .ok (.iload 6, 2) := by decide +kernel
theorem dX8_followOrder_123 : decode cX8_followOrder 123 = .ok (.ifCond .eq 32, 3) := by decide +kernel
theorem dX8_followOrder_126 : decode cX8_followOrder 126 = .ok (.aload_n 0, 1) := by decide +kernel
theorem dX8_followOrder_127 : decode cX8_followOrder 127 = .ok (.iload 6, 2) := by decide +kernel
theorem dX8_followOrder_129 : decode cX8_followOrder 129 = .ok (.iload_n 3, 1) := by decide +kernel
theorem dX8_followOrder_130 : decode cX8_followOrder 130 = .ok (.iload 4, 2) := by decide +kernel
theorem dX8_followOrder_132 : decode cX8_followOrder 132 = .ok (.invokevirtual 121, 3) := by decide +kernel
theorem dX8_followOrder_135 : decode cX8_followOrder 135 = .ok (.ifCond .ne 20, 3) := by decide +kernel
theorem dX8_followOrder_138 : decode cX8_followOrder 138 = .ok (.aload_n 0, 1) := by decide +kernel
theorem dX8_followOrder_139 : decode cX8_followOrder 139 = .ok (.getfield 16, 3) := by decide +kernel
theorem dX8_followOrder_142 : decode cX8_followOrder 142 = .ok (.iload 6, 2) := by decide +kernel
theorem dX8_followOrder_144 : decode cX8_followOrder 144 = .ok (.iload_n 1, 1) := by decide +kernel
theorem dX8_followOrder_145 : decode cX8_followOrder 145 = .ok (.iload_n 2, 1) := by decide +kernel
theorem dX8_followOrder_146 : decode cX8_followOrder 146 = .ok (.bipush 10, 2) := by decide +kernel
theorem dX8_followOrder_148 : decode cX8_followOrder 148 = .ok (.idiv, 1) := by decide +kernel
theorem dX8_followOrder_149 : decode cX8_followOrder 149 = .ok (.iload 4, 2) := by decide +kernel
theorem dX8_followOrder_151 : decode cX8_followOrder 151 = .ok (.invokevirtual 124, 3) := by decide +kernel
theorem dX8_followOrder_154 : decode cX8_followOrder 154 = .ok (.pop, 1) := by decide +kernel
theorem dX8_followOrder_155 : decode cX8_followOrder 155 = .ok (.return_, 1) := by decide +kernel
set_option maxRecDepth 20000 in
theorem ggX8_oddsPart_X8_power : GoodIn wsX8_oddsPart wsX8_power := goodIn_r _ [6] (by decide +kernel) (by decide +kernel)
set_option maxRecDepth 20000 in
theorem gX8_oddsPart_X8_power : GoodIn wsX8_oddsPart (va_wsS RX8 271 yX8_power wsX8_power) := goodIn_app (goodIn_of _ (by decide +kernel)) ggX8_oddsPart_X8_power
set_option maxRecDepth 20000 in
theorem ggX8_oddsPart_X8_lowest : GoodIn wsX8_oddsPart wsX8_lowest := goodIn_r _ [9, 10, 11, 12, 13, 14, 15, 16] (by decide +kernel) (by decide +kernel)
set_option maxRecDepth 20000 in
theorem gX8_oddsPart_X8_lowest : GoodIn wsX8_oddsPart (va_wsS RX8 277 yX8_lowest wsX8_lowest) := goodIn_app (goodIn_of _ (by decide +kernel)) ggX8_oddsPart_X8_lowest
theorem dX8_oddsPart_0 : decode cX8_oddsPart 0 = .ok (.aload_n 0, 1) := by decide +kernel
theorem dX8_oddsPart_1 : decode cX8_oddsPart 1 = .ok (.getfield 16, 3) := by decide +kernel
theorem dX8_oddsPart_4 : decode cX8_oddsPart 4 = .ok (.getfield 118, 3) := by decide +kernel
theorem dX8_oddsPart_7 : decode cX8_oddsPart 7 = .ok (.bipush 10, 2) := by decide +kernel
theorem dX8_oddsPart_9 : decode cX8_oddsPart 9 = .ok (.irem, 1) := by decide +kernel
theorem dX8_oddsPart_10 : decode cX8_oddsPart 10 = .ok (.i2l, 1) := by decide +kernel
theorem dX8_oddsPart_11 : decode cX8_oddsPart 11 = .ok (.iload_n 2, 1) := by decide +kernel
theorem dX8_oddsPart_12 : decode cX8_oddsPart 12 = .ok (.invokestatic 271, 3) := by decide +kernel
theorem dX8_oddsPart_15 : decode cX8_oddsPart 15 = .ok (.lstore 4, 2) := by decide +kernel
theorem dX8_oddsPart_17 : decode cX8_oddsPart 17 = .ok (.lload 4, 2) := by decide +kernel
theorem dX8_oddsPart_19 : decode cX8_oddsPart 19 = .ok (.aload_n 0, 1) := by decide +kernel
theorem dX8_oddsPart_20 : decode cX8_oddsPart 20 = .ok (.getfield 16, 3) := by decide +kernel
theorem dX8_oddsPart_23 : decode cX8_oddsPart 23 = .ok (.getfield 118, 3) := by decide +kernel
theorem dX8_oddsPart_26 : decode cX8_oddsPart 26 = .ok (.bipush 10, 2) := by decide +kernel
theorem dX8_oddsPart_28 : decode cX8_oddsPart 28 = .ok (.idiv, 1) := by decide +kernel
theorem dX8_oddsPart_29 : decode cX8_oddsPart 29 = .ok (.i2l, 1) := by decide +kernel
theorem dX8_oddsPart_30 : decode cX8_oddsPart 30 = .ok (.iload_n 2, 1) := by decide +kernel
theorem dX8_oddsPart_31 : decode cX8_oddsPart 31 = .ok (.invokestatic 271, 3) := by decide +kernel
theorem dX8_oddsPart_34 : decode cX8_oddsPart 34 = .ok (.lsub, 1) := by decide +kernel
theorem dX8_oddsPart_35 : decode cX8_oddsPart 35 = .ok (.lstore 6, 2) := by decide +kernel
theorem dX8_oddsPart_37 : decode cX8_oddsPart 37 = .ok (.lload 6, 2) := by decide +kernel
theorem dX8_oddsPart_39 : decode cX8_oddsPart 39 = .ok (.lload 4, 2) := by decide +kernel
theorem dX8_oddsPart_41 : decode cX8_oddsPart 41 = .ok (.iload_n 3, 1) := by decide +kernel
theorem dX8_oddsPart_42 : decode cX8_oddsPart 42 = .ok (.invokestatic 277, 3) := by decide +kernel
theorem dX8_oddsPart_45 : decode cX8_oddsPart 45 = .ok (.iload_n 1, 1) := by decide +kernel
theorem dX8_oddsPart_46 : decode cX8_oddsPart 46 = .ok (.invokestatic 271, 3) := by decide +kernel
theorem dX8_oddsPart_49 : decode cX8_oddsPart 49 = .ok (.lreturn, 1) := by decide +kernel
theorem dX8_power_0 : decode cX8_power 0 = .ok (.lconst 1, 1) := by decide +kernel
theorem dX8_power_1 : decode cX8_power 1 = .ok (.lstore_n 3, 1) := by decide +kernel
theorem dX8_power_2 : decode cX8_power 2 = .ok (.iconst 0, 1) := by decide +kernel
theorem dX8_power_3 : decode cX8_power 3 = .ok (.istore 5, 2) := by decide +kernel
theorem dX8_power_5 : decode cX8_power 5 = .ok (.iload 5, 2) := by decide +kernel
theorem dX8_power_7 : decode cX8_power 7 = .ok (.iload_n 2, 1) := by decide +kernel
theorem dX8_power_8 : decode cX8_power 8 = .ok (.if_icmp .ge 13, 3) := by decide +kernel
theorem dX8_power_11 : decode cX8_power 11 = .ok (.lload_n 3, 1) := by decide +kernel
theorem dX8_power_12 : decode cX8_power 12 = .ok (.lload_n 0, 1) := by decide +kernel
theorem dX8_power_13 : decode cX8_power 13 = .ok (.lmul, 1) := by decide +kernel
theorem dX8_power_14 : decode cX8_power 14 = .ok (.lstore_n 3, 1) := by decide +kernel
theorem dX8_power_15 : decode cX8_power 15 = .ok (.iinc 5 1, 3) := by decide +kernel
theorem dX8_power_18 : decode cX8_power 18 = .ok (.goto (-13), 3) := by decide +kernel
theorem dX8_power_21 : decode cX8_power 21 = .ok (.lload_n 3, 1) := by decide +kernel
theorem dX8_power_22 : decode cX8_power 22 = .ok (.lreturn, 1) := by decide +kernel
theorem dX8_lowest_0 : decode cX8_lowest 0 = .ok (.lload_n 2, 1) := by decide +kernel
theorem dX8_lowest_1 : decode cX8_lowest 1 = .ok (.lstore 5, 2) := by decide +kernel
theorem dX8_lowest_3 : decode cX8_lowest 3 = .ok (.lload_n 0, 1) := by decide +kernel
theorem dX8_lowest_4 : decode cX8_lowest 4 = .ok (.lstore 7, 2) := by decide +kernel
theorem dX8_lowest_6 : decode cX8_lowest 6 = .ok (.iconst 0, 1) := by decide +kernel
theorem dX8_lowest_7 : decode cX8_lowest 7 = .ok (.istore 9, 2) := by decide +kernel
theorem dX8_lowest_9 : decode cX8_lowest 9 = .ok (.iload 9, 2) := by decide +kernel
theorem dX8_lowest_11 : decode cX8_lowest 11 = .ok (.sipush 128, 3) := by decide +kernel
theorem dX8_lowest_14 : decode cX8_lowest 14 = .ok (.if_icmp .ge 31, 3) := by decide +kernel
theorem dX8_lowest_17 : decode cX8_lowest 17 = .ok (.lload 7, 2) := by decide +kernel
theorem dX8_lowest_19 : decode cX8_lowest 19 = .ok (.lconst 0, 1) := by decide +kernel
theorem dX8_lowest_20 : decode cX8_lowest 20 = .ok (.lcmp, 1) := by decide +kernel
theorem dX8_lowest_21 : decode cX8_lowest 21 = .ok (.ifCond .eq 24, 3) := by decide +kernel
theorem dX8_lowest_24 : decode cX8_lowest 24 = .ok (.lload 5, 2) := by decide +kernel
theorem dX8_lowest_26 : decode cX8_lowest 26 = .ok (.lload 7, 2) := by decide +kernel
theorem dX8_lowest_28 : decode cX8_lowest 28 = .ok (.lrem, 1) := by decide +kernel
theorem dX8_lowest_29 : decode cX8_lowest 29 = .ok (.lstore 10, 2) := by decide +kernel
theorem dX8_lowest_31 : decode cX8_lowest 31 = .ok (.lload 7, 2) := by decide +kernel
theorem dX8_lowest_33 : decode cX8_lowest 33 = .ok (.lstore 5, 2) := by decide +kernel
theorem dX8_lowest_35 : decode cX8_lowest 35 = .ok (.lload 10, 2) := by decide +kernel
theorem dX8_lowest_37 : decode cX8_lowest 37 = .ok (.lstore 7, 2) := by decide +kernel
theorem dX8_lowest_39 : decode cX8_lowest 39 = .ok (.iinc 9 1, 3) := by decide +kernel
theorem dX8_lowest_42 : decode cX8_lowest 42 = .ok (.goto (-33), 3) := by decide +kernel
theorem dX8_lowest_45 : decode cX8_lowest 45 = .ok (.lconst 1, 1) := by decide +kernel
theorem dX8_lowest_46 : decode cX8_lowest 46 = .ok (.lload 5, 2) := by decide +kernel
theorem dX8_lowest_48 : decode cX8_lowest 48 = .ok (.invokestatic 356, 3) := by decide +kernel
theorem dX8_lowest_51 : decode cX8_lowest 51 = .ok (.invokestatic 360, 3) := by decide +kernel
theorem dX8_lowest_54 : decode cX8_lowest 54 = .ok (.lstore 9, 2) := by decide +kernel
theorem dX8_lowest_56 : decode cX8_lowest 56 = .ok (.iload 4, 2) := by decide +kernel
theorem dX8_lowest_58 : decode cX8_lowest 58 = .ok (.ifCond .ne 7, 3) := by decide +kernel
theorem dX8_lowest_61 : decode cX8_lowest 61 = .ok (.lload_n 0, 1) := by decide +kernel
theorem dX8_lowest_62 : decode cX8_lowest 62 = .ok (.goto 4, 3) := by decide +kernel
theorem dX8_lowest_65 : decode cX8_lowest 65 = .ok (.lload_n 2, 1) := by decide +kernel
theorem dX8_lowest_66 : decode cX8_lowest 66 = .ok (.lload 9, 2) := by decide +kernel
theorem dX8_lowest_68 : decode cX8_lowest 68 = .ok (.ldiv, 1) := by decide +kernel
theorem dX8_lowest_69 : decode cX8_lowest 69 = .ok (.lreturn, 1) := by decide +kernel
theorem dX8_payAt_0 : decode cX8_payAt 0 = .ok (.bipush 8, 2) := by decide +kernel
theorem dX8_payAt_2 : decode cX8_payAt 2 = .ok (.iload_n 0, 1) := by decide +kernel
theorem dX8_payAt_3 : decode cX8_payAt 3 = .ok (.imul, 1) := by decide +kernel
theorem dX8_payAt_4 : decode cX8_payAt 4 = .ok (.iconst 4, 1) := by decide +kernel
theorem dX8_payAt_5 : decode cX8_payAt 5 = .ok (.iload_n 1, 1) := by decide +kernel
theorem dX8_payAt_6 : decode cX8_payAt 6 = .ok (.imul, 1) := by decide +kernel
theorem dX8_payAt_7 : decode cX8_payAt 7 = .ok (.iadd, 1) := by decide +kernel
theorem dX8_payAt_8 : decode cX8_payAt 8 = .ok (.iload_n 2, 1) := by decide +kernel
theorem dX8_payAt_9 : decode cX8_payAt 9 = .ok (.iadd, 1) := by decide +kernel
theorem dX8_payAt_10 : decode cX8_payAt 10 = .ok (.ireturn, 1) := by decide +kernel
set_option maxRecDepth 20000 in
theorem ggX8_gain_X8_payAt : GoodIn wsX8_gain wsX8_payAt := goodIn_r _ [6] (by decide +kernel) (by decide +kernel)
set_option maxRecDepth 20000 in
theorem gX8_gain_X8_payAt : GoodIn wsX8_gain (va_wsS RX8 246 yX8_payAt wsX8_payAt) := goodIn_app (goodIn_of _ (by decide +kernel)) ggX8_gain_X8_payAt
theorem dX8_gain_0 : decode cX8_gain 0 = .ok (.aload_n 0, 1) := by decide +kernel
theorem dX8_gain_1 : decode cX8_gain 1 = .ok (.getfield 16, 3) := by decide +kernel
theorem dX8_gain_4 : decode cX8_gain 4 = .ok (.getfield 249, 3) := by decide +kernel
theorem dX8_gain_7 : decode cX8_gain 7 = .ok (.iload_n 1, 1) := by decide +kernel
theorem dX8_gain_8 : decode cX8_gain 8 = .ok (.iload_n 2, 1) := by decide +kernel
theorem dX8_gain_9 : decode cX8_gain 9 = .ok (.iconst 2, 1) := by decide +kernel
theorem dX8_gain_10 : decode cX8_gain 10 = .ok (.iload_n 3, 1) := by decide +kernel
theorem dX8_gain_11 : decode cX8_gain 11 = .ok (.imul, 1) := by decide +kernel
theorem dX8_gain_12 : decode cX8_gain 12 = .ok (.iload 4, 2) := by decide +kernel
theorem dX8_gain_14 : decode cX8_gain 14 = .ok (.iadd, 1) := by decide +kernel
theorem dX8_gain_15 : decode cX8_gain 15 = .ok (.invokestatic 246, 3) := by decide +kernel
theorem dX8_gain_18 : decode cX8_gain 18 = .ok (.iaload, 1) := by decide +kernel
theorem dX8_gain_19 : decode cX8_gain 19 = .ok (.istore 5, 2) := by decide +kernel
theorem dX8_gain_21 : decode cX8_gain 21 = .ok (.iload 5, 2) := by decide +kernel
theorem dX8_gain_23 : decode cX8_gain 23 = .ok (.aload_n 0, 1) := by decide +kernel
theorem dX8_gain_24 : decode cX8_gain 24 = .ok (.getfield 16, 3) := by decide +kernel
theorem dX8_gain_27 : decode cX8_gain 27 = .ok (.getfield 249, 3) := by decide +kernel
theorem dX8_gain_30 : decode cX8_gain 30 = .ok (.iload_n 1, 1) := by decide +kernel
theorem dX8_gain_31 : decode cX8_gain 31 = .ok (.iload_n 2, 1) := by decide +kernel
theorem dX8_gain_32 : decode cX8_gain 32 = .ok (.iconst 2, 1) := by decide +kernel
theorem dX8_gain_33 : decode cX8_gain 33 = .ok (.iconst 1, 1) := by decide +kernel
theorem dX8_gain_34 : decode cX8_gain 34 = .ok (.iload_n 3, 1) := by decide +kernel
theorem dX8_gain_35 : decode cX8_gain 35 = .ok (.isub, 1) := by decide +kernel
theorem dX8_gain_36 : decode cX8_gain 36 = .ok (.imul, 1) := by decide +kernel
theorem dX8_gain_37 : decode cX8_gain 37 = .ok (.iload 4, 2) := by decide +kernel
theorem dX8_gain_39 : decode cX8_gain 39 = .ok (.iadd, 1) := by decide +kernel
theorem dX8_gain_40 : decode cX8_gain 40 = .ok (.invokestatic 246, 3) := by decide +kernel
theorem dX8_gain_43 : decode cX8_gain 43 = .ok (.iaload, 1) := by decide +kernel
theorem dX8_gain_44 : decode cX8_gain 44 = .ok (.isub, 1) := by decide +kernel
theorem dX8_gain_45 : decode cX8_gain 45 = .ok (.ireturn, 1) := by decide +kernel
theorem dX8_isWorthwhile_0 : decode cX8_isWorthwhile 0 = .ok (.aload_n 0, 1) := by decide +kernel
theorem dX8_isWorthwhile_1 : decode cX8_isWorthwhile 1 = .ok (.getfield 16, 3) := by decide +kernel
theorem dX8_isWorthwhile_4 : decode cX8_isWorthwhile 4 = .ok (.getfield 261, 3) := by decide +kernel
theorem dX8_isWorthwhile_7 : decode cX8_isWorthwhile 7 = .ok (.iload_n 1, 1) := by decide +kernel
theorem dX8_isWorthwhile_8 : decode cX8_isWorthwhile 8 = .ok (.iaload, 1) := by decide +kernel
theorem dX8_isWorthwhile_9 : decode cX8_isWorthwhile 9 = .ok (.iload_n 2, 1) := by decide +kernel
theorem dX8_isWorthwhile_10 : decode cX8_isWorthwhile 10 = .ok (.imul, 1) := by decide +kernel
theorem dX8_isWorthwhile_11 : decode cX8_isWorthwhile 11 = .ok (.aload_n 0, 1) := by decide +kernel
theorem dX8_isWorthwhile_12 : decode cX8_isWorthwhile 12 = .ok (.getfield 16, 3) := by decide +kernel
theorem dX8_isWorthwhile_15 : decode cX8_isWorthwhile 15 = .ok (.getfield 258, 3) := by decide +kernel
theorem dX8_isWorthwhile_18 : decode cX8_isWorthwhile 18 = .ok (.iload_n 1, 1) := by decide +kernel
theorem dX8_isWorthwhile_19 : decode cX8_isWorthwhile 19 = .ok (.iaload, 1) := by decide +kernel
theorem dX8_isWorthwhile_20 : decode cX8_isWorthwhile 20 = .ok (.iload_n 3, 1) := by decide +kernel
theorem dX8_isWorthwhile_21 : decode cX8_isWorthwhile 21 = .ok (.imul, 1) := by decide +kernel
theorem dX8_isWorthwhile_22 : decode cX8_isWorthwhile 22 = .ok (.if_icmp .le 7, 3) := by decide +kernel
theorem dX8_isWorthwhile_25 : decode cX8_isWorthwhile 25 = .ok (.iconst 1, 1) := by decide +kernel
theorem dX8_isWorthwhile_26 : decode cX8_isWorthwhile 26 = .ok (.goto 4, 3) := by decide +kernel
theorem dX8_isWorthwhile_29 : decode cX8_isWorthwhile 29 = .ok (.iconst 0, 1) := by decide +kernel
theorem dX8_isWorthwhile_30 : decode cX8_isWorthwhile 30 = .ok (.ireturn, 1) := by decide +kernel
set_option maxRecDepth 20000 in
theorem ggX8_areOfTwoMinds_X8_nameAll : GoodIn wsX8_areOfTwoMinds wsX8_nameAll := goodIn_r _ [7, 1, 21, 22, 23, 24, 25, 26, 27, 28, 29, 30, 31] (by decide +kernel) (by decide +kernel)
set_option maxRecDepth 20000 in
theorem gX8_areOfTwoMinds_X8_nameAll : GoodIn wsX8_areOfTwoMinds (wsV RX8 223 RX8 yX8_nameAll wsX8_nameAll) := goodIn_app (goodIn_of _ (by decide +kernel)) ggX8_areOfTwoMinds_X8_nameAll
set_option maxRecDepth 20000 in
theorem ggX8_areOfTwoMinds_X5_reckon : GoodIn wsX8_areOfTwoMinds wsX5_reckon := goodIn_r _ [12, 13, 14, 15, 16, 11, 17, 18, 19, 20, 32, 33] (by decide +kernel) (by decide +kernel)
set_option maxRecDepth 20000 in
theorem gX8_areOfTwoMinds_X5_reckon : GoodIn wsX8_areOfTwoMinds (wsV RX8 227 RX5 yX5_reckon wsX5_reckon) := goodIn_app (goodIn_of _ (by decide +kernel)) ggX8_areOfTwoMinds_X5_reckon
theorem dX8_areOfTwoMinds_0 : decode cX8_areOfTwoMinds 0 = .ok (.iload 4, 2) := by decide +kernel
theorem dX8_areOfTwoMinds_2 : decode cX8_areOfTwoMinds 2 = .ok (.iconst 4, 1) := by decide +kernel
theorem dX8_areOfTwoMinds_3 : decode cX8_areOfTwoMinds 3 = .ok (.idiv, 1) := by decide +kernel
theorem dX8_areOfTwoMinds_4 : decode cX8_areOfTwoMinds 4 = .ok (.istore 6, 2) := by decide +kernel
theorem dX8_areOfTwoMinds_6 : decode cX8_areOfTwoMinds 6 = .ok (.iload 4, 2) := by decide +kernel
theorem dX8_areOfTwoMinds_8 : decode cX8_areOfTwoMinds 8 = .ok (.iconst 4, 1) := by decide +kernel
theorem dX8_areOfTwoMinds_9 : decode cX8_areOfTwoMinds 9 = .ok (.irem, 1) := by decide +kernel
theorem dX8_areOfTwoMinds_10 : decode cX8_areOfTwoMinds 10 = .ok (.istore 7, 2) := by decide +kernel
theorem dX8_areOfTwoMinds_12 : decode cX8_areOfTwoMinds 12 = .ok (.iload 6, 2) := by decide +kernel
theorem dX8_areOfTwoMinds_14 : decode cX8_areOfTwoMinds 14 = .ok (.iload 7, 2) := by decide +kernel
theorem dX8_areOfTwoMinds_16 : decode cX8_areOfTwoMinds 16 = .ok (.if_icmp .ne 5, 3) := by decide +kernel
theorem dX8_areOfTwoMinds_19 : decode cX8_areOfTwoMinds 19 = .ok (.iconst 0, 1) := by decide +kernel
theorem dX8_areOfTwoMinds_20 : decode cX8_areOfTwoMinds 20 = .ok (.ireturn, 1) := by decide +kernel
theorem dX8_areOfTwoMinds_21 : decode cX8_areOfTwoMinds 21 = .ok (.aload_n 0, 1) := by decide +kernel
theorem dX8_areOfTwoMinds_22 : decode cX8_areOfTwoMinds 22 = .ok (.iload 6, 2) := by decide +kernel
theorem dX8_areOfTwoMinds_24 : decode cX8_areOfTwoMinds 24 = .ok (.iload 7, 2) := by decide +kernel
theorem dX8_areOfTwoMinds_26 : decode cX8_areOfTwoMinds 26 = .ok (.iload 5, 2) := by decide +kernel
theorem dX8_areOfTwoMinds_28 : decode cX8_areOfTwoMinds 28 = .ok (.ineg, 1) := by decide +kernel
theorem dX8_areOfTwoMinds_29 : decode cX8_areOfTwoMinds 29 = .ok (.iload_n 2, 1) := by decide +kernel
theorem dX8_areOfTwoMinds_30 : decode cX8_areOfTwoMinds 30 = .ok (.iload_n 3, 1) := by decide +kernel
theorem dX8_areOfTwoMinds_31 : decode cX8_areOfTwoMinds 31 = .ok (.invokevirtual 223, 3) := by decide +kernel
theorem dX8_areOfTwoMinds_34 : decode cX8_areOfTwoMinds 34 = .ok (.aload_n 1, 1) := by decide +kernel
theorem dX8_areOfTwoMinds_35 : decode cX8_areOfTwoMinds 35 = .ok (.aload_n 0, 1) := by decide +kernel
theorem dX8_areOfTwoMinds_36 : decode cX8_areOfTwoMinds 36 = .ok (.getfield 50, 3) := by decide +kernel
theorem dX8_areOfTwoMinds_39 : decode cX8_areOfTwoMinds 39 = .ok (.aload_n 0, 1) := by decide +kernel
theorem dX8_areOfTwoMinds_40 : decode cX8_areOfTwoMinds 40 = .ok (.getfield 53, 3) := by decide +kernel
theorem dX8_areOfTwoMinds_43 : decode cX8_areOfTwoMinds 43 = .ok (.invokevirtual 227, 3) := by decide +kernel
theorem dX8_areOfTwoMinds_46 : decode cX8_areOfTwoMinds 46 = .ok (.ifCond .eq 7, 3) := by decide +kernel
theorem dX8_areOfTwoMinds_49 : decode cX8_areOfTwoMinds 49 = .ok (.iconst 1, 1) := by decide +kernel
theorem dX8_areOfTwoMinds_50 : decode cX8_areOfTwoMinds 50 = .ok (.goto 4, 3) := by decide +kernel
theorem dX8_areOfTwoMinds_53 : decode cX8_areOfTwoMinds 53 = .ok (.iconst 0, 1) := by decide +kernel
theorem dX8_areOfTwoMinds_54 : decode cX8_areOfTwoMinds 54 = .ok (.istore 8, 2) := by decide +kernel
theorem dX8_areOfTwoMinds_56 : decode cX8_areOfTwoMinds 56 = .ok (.aload_n 0, 1) := by decide +kernel
theorem dX8_areOfTwoMinds_57 : decode cX8_areOfTwoMinds 57 = .ok (.iload 7, 2) := by decide +kernel
theorem dX8_areOfTwoMinds_59 : decode cX8_areOfTwoMinds 59 = .ok (.iload 6, 2) := by decide +kernel
theorem dX8_areOfTwoMinds_61 : decode cX8_areOfTwoMinds 61 = .ok (.iload 5, 2) := by decide +kernel
theorem dX8_areOfTwoMinds_63 : decode cX8_areOfTwoMinds 63 = .ok (.iload_n 3, 1) := by decide +kernel
theorem dX8_areOfTwoMinds_64 : decode cX8_areOfTwoMinds 64 = .ok (.iload_n 2, 1) := by decide +kernel
theorem dX8_areOfTwoMinds_65 : decode cX8_areOfTwoMinds 65 = .ok (.invokevirtual 223, 3) := by decide +kernel
theorem dX8_areOfTwoMinds_68 : decode cX8_areOfTwoMinds 68 = .ok (.aload_n 1, 1) := by decide +kernel
theorem dX8_areOfTwoMinds_69 : decode cX8_areOfTwoMinds 69 = .ok (.aload_n 0, 1) := by decide +kernel
theorem dX8_areOfTwoMinds_70 : decode cX8_areOfTwoMinds 70 = .ok (.getfield 50, 3) := by decide +kernel
theorem dX8_areOfTwoMinds_73 : decode cX8_areOfTwoMinds 73 = .ok (.aload_n 0, 1) := by decide +kernel
theorem dX8_areOfTwoMinds_74 : decode cX8_areOfTwoMinds 74 = .ok (.getfield 53, 3) := by decide +kernel
theorem dX8_areOfTwoMinds_77 : decode cX8_areOfTwoMinds 77 = .ok (.invokevirtual 227, 3) := by decide +kernel
theorem dX8_areOfTwoMinds_80 : decode cX8_areOfTwoMinds 80 = .ok (.ifCond .eq 7, 3) := by decide +kernel
theorem dX8_areOfTwoMinds_83 : decode cX8_areOfTwoMinds 83 = .ok (.iconst 1, 1) := by decide +kernel
theorem dX8_areOfTwoMinds_84 : decode cX8_areOfTwoMinds 84 = .ok (.goto 4, 3) := by decide +kernel
theorem dX8_areOfTwoMinds_87 : decode cX8_areOfTwoMinds 87 = .ok (.iconst 0, 1) := by decide +kernel
theorem dX8_areOfTwoMinds_88 : decode cX8_areOfTwoMinds 88 = .ok (.istore 9, 2) := by decide +kernel
