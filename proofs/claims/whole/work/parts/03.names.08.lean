theorem dX9_areOfTwo_7 : decode cX9_areOfTwo 7 = .ok (.sipush 1000, 3) := by decide +kernel
theorem dX9_areOfTwo_10 : decode cX9_areOfTwo 10 = .ok (.idiv, 1) := by decide +kernel
theorem dX9_areOfTwo_11 : decode cX9_areOfTwo 11 = .ok (.bipush 10, 2) := by decide +kernel
theorem dX9_areOfTwo_13 : decode cX9_areOfTwo 13 = .ok (.irem, 1) := by decide +kernel
theorem dX9_areOfTwo_14 : decode cX9_areOfTwo 14 = .ok (.istore 4, 2) := by decide +kernel
theorem dX9_areOfTwo_16 : decode cX9_areOfTwo 16 = .ok (.iload_n 2, 1) := by decide +kernel
theorem dX9_areOfTwo_17 : decode cX9_areOfTwo 17 = .ok (.bipush 100, 2) := by decide +kernel
theorem dX9_areOfTwo_19 : decode cX9_areOfTwo 19 = .ok (.idiv, 1) := by decide +kernel
theorem dX9_areOfTwo_20 : decode cX9_areOfTwo 20 = .ok (.bipush 10, 2) := by decide +kernel
theorem dX9_areOfTwo_22 : decode cX9_areOfTwo 22 = .ok (.irem, 1) := by decide +kernel
theorem dX9_areOfTwo_23 : decode cX9_areOfTwo 23 = .ok (.istore 5, 2) := by decide +kernel
theorem dX9_areOfTwo_25 : decode cX9_areOfTwo 25 = .ok (.iload_n 2, 1) := by decide +kernel
theorem dX9_areOfTwo_26 : decode cX9_areOfTwo 26 = .ok (.bipush 10, 2) := by decide +kernel
theorem dX9_areOfTwo_28 : decode cX9_areOfTwo 28 = .ok (.idiv, 1) := by decide +kernel
theorem dX9_areOfTwo_29 : decode cX9_areOfTwo 29 = .ok (.bipush 10, 2) := by decide +kernel
theorem dX9_areOfTwo_31 : decode cX9_areOfTwo 31 = .ok (.irem, 1) := by decide +kernel
theorem dX9_areOfTwo_32 : decode cX9_areOfTwo 32 = .ok (.istore 6, 2) := by decide +kernel
theorem dX9_areOfTwo_34 : decode cX9_areOfTwo 34 = .ok (.iload_n 2, 1) := by decide +kernel
theorem dX9_areOfTwo_35 : decode cX9_areOfTwo 35 = .ok (.bipush 10, 2) := by decide +kernel
theorem dX9_areOfTwo_37 : decode cX9_areOfTwo 37 = .ok (.irem, 1) := by decide +kernel
theorem dX9_areOfTwo_38 : decode cX9_areOfTwo 38 = .ok (.iconst 2, 1) := by decide +kernel
theorem dX9_areOfTwo_39 : decode cX9_areOfTwo 39 = .ok (.isub, 1) := by decide +kernel
theorem dX9_areOfTwo_40 : decode cX9_areOfTwo 40 = .ok (.istore 7, 2) := by decide +kernel
theorem dX9_areOfTwo_42 : decode cX9_areOfTwo 42 = .ok (.aload_n 0, 1) := by decide +kernel
theorem dX9_areOfTwo_43 : decode cX9_areOfTwo 43 = .ok (.iload_n 1, 1) := by decide +kernel
theorem dX9_areOfTwo_44 : decode cX9_areOfTwo 44 = .ok (.iload 5, 2) := by decide +kernel
theorem dX9_areOfTwo_46 : decode cX9_areOfTwo 46 = .ok (.iload 6, 2) := by decide +kernel
theorem dX9_areOfTwo_48 : decode cX9_areOfTwo 48 = .ok (.iload 7, 2) := by decide +kernel
theorem dX9_areOfTwo_50 : decode cX9_areOfTwo 50 = .ok (.ineg, 1) := by decide +kernel
theorem dX9_areOfTwo_51 : decode cX9_areOfTwo 51 = .ok (.bipush 10, 2) := by decide +kernel
theorem dX9_areOfTwo_53 : decode cX9_areOfTwo 53 = .ok (.iload_n 3, 1) := by decide +kernel
theorem dX9_areOfTwo_54 : decode cX9_areOfTwo 54 = .ok (.imul, 1) := by decide +kernel
theorem dX9_areOfTwo_55 : decode cX9_areOfTwo 55 = .ok (.iload 4, 2) := by decide +kernel
theorem dX9_areOfTwo_57 : decode cX9_areOfTwo 57 = .ok (.iadd, 1) := by decide +kernel
theorem dX9_areOfTwo_58 : decode cX9_areOfTwo 58 = .ok (.invokevirtual 288, 3) := by decide +kernel
theorem dX9_areOfTwo_61 : decode cX9_areOfTwo 61 = .ok (.ifCond .eq 8, 3) := by decide +kernel
theorem dX9_areOfTwo_64 : decode cX9_areOfTwo 64 = .ok (.iload 6, 2) := by decide +kernel
theorem dX9_areOfTwo_66 : decode cX9_areOfTwo 66 = .ok (.goto 5, 3) := by decide +kernel
theorem dX9_areOfTwo_69 : decode cX9_areOfTwo 69 = .ok (.iload 5, 2) := by decide +kernel
theorem dX9_areOfTwo_71 : decode cX9_areOfTwo 71 = .ok (.istore 8, 2) := by decide +kernel
theorem dX9_areOfTwo_73 : decode cX9_areOfTwo 73 = .ok (.aload_n 0, 1) := by decide +kernel
theorem dX9_areOfTwo_74 : decode cX9_areOfTwo 74 = .ok (.iload_n 1, 1) := by decide +kernel
theorem dX9_areOfTwo_75 : decode cX9_areOfTwo 75 = .ok (.iload 6, 2) := by decide +kernel
theorem dX9_areOfTwo_77 : decode cX9_areOfTwo 77 = .ok (.iload 5, 2) := by decide +kernel
theorem dX9_areOfTwo_79 : decode cX9_areOfTwo 79 = .ok (.iload 7, 2) := by decide +kernel
theorem dX9_areOfTwo_81 : decode cX9_areOfTwo 81 = .ok (.bipush 10, 2) := by decide +kernel
theorem dX9_areOfTwo_83 : decode cX9_areOfTwo 83 = .ok (.iload 4, 2) := by decide +kernel
theorem dX9_areOfTwo_85 : decode cX9_areOfTwo 85 = .ok (.imul, 1) := by decide +kernel
theorem dX9_areOfTwo_86 : decode cX9_areOfTwo 86 = .ok (.iload_n 3, 1) := by decide +kernel
theorem dX9_areOfTwo_87 : decode cX9_areOfTwo 87 = .ok (.iadd, 1) := by decide +kernel
theorem dX9_areOfTwo_88 : decode cX9_areOfTwo 88 = .ok (.invokevirtual 288, 3) := by decide +kernel
theorem dX9_areOfTwo_91 : decode cX9_areOfTwo 91 = .ok (.ifCond .eq 8, 3) := by decide +kernel
theorem dX9_areOfTwo_94 : decode cX9_areOfTwo 94 = .ok (.iload 5, 2) := by decide +kernel
theorem dX9_areOfTwo_96 : decode cX9_areOfTwo 96 = .ok (.goto 5, 3) := by decide +kernel
theorem dX9_areOfTwo_99 : decode cX9_areOfTwo 99 = .ok (.iload 6, 2) := by decide +kernel
theorem dX9_areOfTwo_101 : decode cX9_areOfTwo 101 = .ok (.istore 9, 2) := by decide +kernel
theorem dX9_areOfTwo_103 : decode cX9_areOfTwo 103 = .ok (.iload 8, 2) := by decide +kernel
theorem dX9_areOfTwo_105 : decode cX9_areOfTwo 105 = .ok (.iload 9, 2) := by decide +kernel
theorem dX9_areOfTwo_107 : decode cX9_areOfTwo 107 = .ok (.if_icmp .eq 7, 3) := by decide +kernel
theorem dX9_areOfTwo_110 : decode cX9_areOfTwo 110 = .ok (.iconst 1, 1) := by decide +kernel
theorem dX9_areOfTwo_111 : decode cX9_areOfTwo 111 = .ok (.goto 4, 3) := by decide +kernel
theorem dX9_areOfTwo_114 : decode cX9_areOfTwo 114 = .ok (.iconst 0, 1) := by decide +kernel
theorem dX9_areOfTwo_115 : decode cX9_areOfTwo 115 = .ok (.ireturn, 1) := by decide +kernel
set_option maxRecDepth 20000 in
theorem ggX9_minds_X9_in : GoodIn wsX9_minds wsX9_in := goodIn_r _ [4] (by decide +kernel) (by decide +kernel)
set_option maxRecDepth 20000 in
theorem gX9_minds_X9_in : GoodIn wsX9_minds (va_wsS RX9 54 yX9_in wsX9_in) := goodIn_app (goodIn_of _ (by decide +kernel)) ggX9_minds_X9_in
set_option maxRecDepth 20000 in
theorem ggX9_minds_X9_finds : GoodIn wsX9_minds wsX9_finds := goodIn_r _ [8, 9, 10, 77, 78, 79, 80, 81, 82, 83, 84, 85, 86, 87, 88, 89, 90, 91, 92, 93, 94, 95, 96, 97, 98, 99] (by decide +kernel) (by decide +kernel)
set_option maxRecDepth 20000 in
theorem gX9_minds_X9_finds : GoodIn wsX9_minds (wsV RX9 68 RX9 yX9_finds wsX9_finds) := goodIn_app (goodIn_of _ (by decide +kernel)) ggX9_minds_X9_finds
set_option maxRecDepth 20000 in
theorem ggX9_minds_X9_areOfTwo : GoodIn wsX9_minds wsX9_areOfTwo := goodIn_r _ [14, 15, 16, 17, 3, 18, 19, 20, 21, 22, 23, 24, 25, 26, 27, 28, 29, 30, 31, 32, 33, 34, 35, 36, 37, 38, 39, 40, 41, 42, 43, 44, 45, 46, 47, 48, 49, 50, 51, 52, 53, 54, 55, 56, 57, 58, 59, 60, 61, 62, 63, 64, 65, 66, 67, 68, 69, 70, 71, 72, 73, 74, 75, 76, 1, 2, 4, 77, 78, 79, 80, 81, 82, 83, 84, 85, 86, 87, 88, 89, 90, 91, 92, 93, 94, 95, 96, 97, 98, 99] (by decide +kernel) (by decide +kernel)
set_option maxRecDepth 20000 in
theorem gX9_minds_X9_areOfTwo : GoodIn wsX9_minds (wsV RX9 292 RX9 yX9_areOfTwo wsX9_areOfTwo) := goodIn_app (goodIn_of _ (by decide +kernel)) ggX9_minds_X9_areOfTwo
theorem dX9_minds_0 : decode cX9_minds 0 = .ok (.iload_n 1, 1) := by decide +kernel
theorem dX9_minds_1 : decode cX9_minds 1 = .ok (.i2l, 1) := by decide +kernel
theorem dX9_minds_2 : decode cX9_minds 2 = .ok (.lconst 0, 1) := by decide +kernel
theorem dX9_minds_3 : decode cX9_minds 3 = .ok (.lconst 1, 1) := by decide +kernel
theorem dX9_minds_4 : decode cX9_minds 4 = .ok (.invokestatic 54, 3) := by decide +kernel
theorem dX9_minds_7 : decode cX9_minds 7 = .ok (.ifCond .eq 13, 3) := by decide +kernel
theorem dX9_minds_10 : decode cX9_minds 10 = .ok (.iload_n 2, 1) := by decide +kernel
theorem dX9_minds_11 : decode cX9_minds 11 = .ok (.i2l, 1) := by decide +kernel
theorem dX9_minds_12 : decode cX9_minds 12 = .ok (.lconst 0, 1) := by decide +kernel
theorem dX9_minds_13 : decode cX9_minds 13 = .ok (.lconst 1, 1) := by decide +kernel
theorem dX9_minds_14 : decode cX9_minds 14 = .ok (.invokestatic 54, 3) := by decide +kernel
theorem dX9_minds_17 : decode cX9_minds 17 = .ok (.ifCond .ne 9, 3) := by decide +kernel
theorem dX9_minds_20 : decode cX9_minds 20 = .ok (.aload_n 0, 1) := by decide +kernel
theorem dX9_minds_21 : decode cX9_minds 21 = .ok (.iconst 1, 1) := by decide +kernel
theorem dX9_minds_22 : decode cX9_minds 22 = .ok (.invokevirtual 68, 3) := by decide +kernel
theorem dX9_minds_25 : decode cX9_minds 25 = .ok (.ireturn, 1) := by decide +kernel
theorem dX9_minds_26 : decode cX9_minds 26 = .ok (.iconst 0, 1) := by decide +kernel
theorem dX9_minds_27 : decode cX9_minds 27 = .ok (.istore_n 3, 1) := by decide +kernel
theorem dX9_minds_28 : decode cX9_minds 28 = .ok (.iconst (-1), 1) := by decide +kernel
theorem dX9_minds_29 : decode cX9_minds 29 = .ok (.istore 4, 2) := by decide +kernel
theorem dX9_minds_31 : decode cX9_minds 31 = .ok (.iconst 0, 1) := by decide +kernel
theorem dX9_minds_32 : decode cX9_minds 32 = .ok (.istore 5, 2) := by decide +kernel
theorem dX9_minds_34 : decode cX9_minds 34 = .ok (.iload 5, 2) := by decide +kernel
theorem dX9_minds_36 : decode cX9_minds 36 = .ok (.bipush 60, 2) := by decide +kernel
theorem dX9_minds_38 : decode cX9_minds 38 = .ok (.if_icmp .ge 141, 3) := by decide +kernel
theorem dX9_minds_41 : decode cX9_minds 41 = .ok (.iconst 0, 1) := by decide +kernel
theorem dX9_minds_42 : decode cX9_minds 42 = .ok (.istore 6, 2) := by decide +kernel
theorem dX9_minds_44 : decode cX9_minds 44 = .ok (.iload 6, 2) := by decide +kernel
theorem dX9_minds_46 : decode cX9_minds 46 = .ok (.bipush 40, 2) := by decide +kernel
theorem dX9_minds_48 : decode cX9_minds 48 = .ok (.if_icmp .ge 125, 3) := by decide +kernel
theorem dX9_minds_51 : decode cX9_minds 51 = .ok (.iload 5, 2) := by decide +kernel
theorem dX9_minds_53 : decode cX9_minds 53 = .ok (.bipush 10, 2) := by decide +kernel
theorem dX9_minds_55 : decode cX9_minds 55 = .ok (.idiv, 1) := by decide +kernel
theorem dX9_minds_56 : decode cX9_minds 56 = .ok (.iload 5, 2) := by decide +kernel
theorem dX9_minds_58 : decode cX9_minds 58 = .ok (.bipush 10, 2) := by decide +kernel
theorem dX9_minds_60 : decode cX9_minds 60 = .ok (.irem, 1) := by decide +kernel
theorem dX9_minds_61 : decode cX9_minds 61 = .ok (.if_icmp .ge 39, 3) := by decide +kernel
theorem dX9_minds_64 : decode cX9_minds 64 = .ok (.iload 5, 2) := by decide +kernel
theorem dX9_minds_66 : decode cX9_minds 66 = .ok (.bipush 10, 2) := by decide +kernel
theorem dX9_minds_68 : decode cX9_minds 68 = .ok (.irem, 1) := by decide +kernel
theorem dX9_minds_69 : decode cX9_minds 69 = .ok (.bipush 6, 2) := by decide +kernel
theorem dX9_minds_71 : decode cX9_minds 71 = .ok (.if_icmp .ge 29, 3) := by decide +kernel
theorem dX9_minds_74 : decode cX9_minds 74 = .ok (.iload 6, 2) := by decide +kernel
theorem dX9_minds_76 : decode cX9_minds 76 = .ok (.bipush 10, 2) := by decide +kernel
theorem dX9_minds_78 : decode cX9_minds 78 = .ok (.irem, 1) := by decide +kernel
theorem dX9_minds_79 : decode cX9_minds 79 = .ok (.iconst 4, 1) := by decide +kernel
theorem dX9_minds_80 : decode cX9_minds 80 = .ok (.if_icmp .ge 20, 3) := by decide +kernel
theorem dX9_minds_83 : decode cX9_minds 83 = .ok (.iload 6, 2) := by decide +kernel
theorem dX9_minds_85 : decode cX9_minds 85 = .ok (.bipush 10, 2) := by decide +kernel
theorem dX9_minds_87 : decode cX9_minds 87 = .ok (.idiv, 1) := by decide +kernel
theorem dX9_minds_88 : decode cX9_minds 88 = .ok (.iload 6, 2) := by decide +kernel
theorem dX9_minds_90 : decode cX9_minds 90 = .ok (.bipush 10, 2) := by decide +kernel
theorem dX9_minds_92 : decode cX9_minds 92 = .ok (.irem, 1) := by decide +kernel
theorem dX9_minds_93 : decode cX9_minds 93 = .ok (.if_icmp .eq 7, 3) := by decide +kernel
theorem dX9_minds_96 : decode cX9_minds 96 = .ok (.iconst 1, 1) := by decide +kernel
theorem dX9_minds_97 : decode cX9_minds 97 = .ok (.goto 4, 3) := by decide +kernel
theorem dX9_minds_100 : decode cX9_minds 100 = .ok (.iconst 0, 1) := by decide +kernel
theorem dX9_minds_101 : decode cX9_minds 101 = .ok (.istore 7, 2) := by decide +kernel
theorem dX9_minds_103 : decode cX9_minds 103 = .ok (.iconst 0, 1) := by decide +kernel
theorem dX9_minds_104 : decode cX9_minds 104 = .ok (.istore 8, 2) := by decide +kernel
theorem dX9_minds_106 : decode cX9_minds 106 = .ok (.iload 8, 2) := by decide +kernel
theorem dX9_minds_108 : decode cX9_minds 108 = .ok (.iconst 5, 1) := by decide +kernel
theorem dX9_minds_109 : decode cX9_minds 109 = .ok (.if_icmp .ge 58, 3) := by decide +kernel
theorem dX9_minds_112 : decode cX9_minds 112 = .ok (.iload 7, 2) := by decide +kernel
theorem dX9_minds_114 : decode cX9_minds 114 = .ok (.ifCond .eq 53, 3) := by decide +kernel
theorem dX9_minds_117 : decode cX9_minds 117 = .ok (.sipush 1000, 3) := by decide +kernel
theorem dX9_minds_120 : decode cX9_minds 120 = .ok (.iload 5, 2) := by decide +kernel
theorem dX9_minds_122 : decode cX9_minds 122 = .ok (.imul, 1) := by decide +kernel
theorem dX9_minds_123 : decode cX9_minds 123 = .ok (.bipush 10, 2) := by decide +kernel
theorem dX9_minds_125 : decode cX9_minds 125 = .ok (.iload 6, 2) := by decide +kernel
theorem dX9_minds_127 : decode cX9_minds 127 = .ok (.imul, 1) := by decide +kernel
theorem dX9_minds_128 : decode cX9_minds 128 = .ok (.iadd, 1) := by decide +kernel
theorem dX9_minds_129 : decode cX9_minds 129 = .ok (.iload 8, 2) := by decide +kernel
theorem dX9_minds_131 : decode cX9_minds 131 = .ok (.iadd, 1) := by decide +kernel
theorem dX9_minds_132 : decode cX9_minds 132 = .ok (.istore 9, 2) := by decide +kernel
theorem dX9_minds_134 : decode cX9_minds 134 = .ok (.aload_n 0, 1) := by decide +kernel
theorem dX9_minds_135 : decode cX9_minds 135 = .ok (.iload_n 1, 1) := by decide +kernel
theorem dX9_minds_136 : decode cX9_minds 136 = .ok (.iload 9, 2) := by decide +kernel
theorem dX9_minds_138 : decode cX9_minds 138 = .ok (.invokevirtual 292, 3) := by decide +kernel
theorem dX9_minds_141 : decode cX9_minds 141 = .ok (.ifCond .eq 20, 3) := by decide +kernel
theorem dX9_minds_144 : decode cX9_minds 144 = .ok (.iinc 3 1, 3) := by decide +kernel
theorem dX9_minds_147 : decode cX9_minds 147 = .ok (.iload 4, 2) := by decide +kernel
theorem dX9_minds_149 : decode cX9_minds 149 = .ok (.ifCond .ge 8, 3) := by decide +kernel
theorem dX9_minds_152 : decode cX9_minds 152 = .ok (.iload 9, 2) := by decide +kernel
theorem dX9_minds_154 : decode cX9_minds 154 = .ok (.goto 5, 3) := by decide +kernel
theorem dX9_minds_157 : decode cX9_minds 157 = .ok (.iload 4, 2) := by decide +kernel
theorem dX9_minds_159 : decode cX9_minds 159 = .ok (.istore 4, 2) := by decide +kernel
theorem dX9_minds_161 : decode cX9_minds 161 = .ok (.iinc 8 1, 3) := by decide +kernel
theorem dX9_minds_164 : decode cX9_minds 164 = .ok (.goto (-58), 3) := by decide +kernel
theorem dX9_minds_167 : decode cX9_minds 167 = .ok (.iinc 6 1, 3) := by decide +kernel
theorem dX9_minds_170 : decode cX9_minds 170 = .ok (.goto (-126), 3) := by decide +kernel
theorem dX9_minds_173 : decode cX9_minds 173 = .ok (.iinc 5 1, 3) := by decide +kernel
theorem dX9_minds_176 : decode cX9_minds 176 = .ok (.goto (-142), 3) := by decide +kernel
theorem dX9_minds_179 : decode cX9_minds 179 = .ok (.iload_n 2, 1) := by decide +kernel
theorem dX9_minds_180 : decode cX9_minds 180 = .ok (.ifCond .ne 7, 3) := by decide +kernel
theorem dX9_minds_183 : decode cX9_minds 183 = .ok (.iload_n 3, 1) := by decide +kernel
theorem dX9_minds_184 : decode cX9_minds 184 = .ok (.goto 18, 3) := by decide +kernel
theorem dX9_minds_187 : decode cX9_minds 187 = .ok (.iload 4, 2) := by decide +kernel
theorem dX9_minds_189 : decode cX9_minds 189 = .ok (.ifCond .ge 11, 3) := by decide +kernel
theorem dX9_minds_192 : decode cX9_minds 192 = .ok (.aload_n 0, 1) := by decide +kernel
theorem dX9_minds_193 : decode cX9_minds 193 = .ok (.iconst 2, 1) := by decide +kernel
theorem dX9_minds_194 : decode cX9_minds 194 = .ok (.invokevirtual 68, 3) := by decide +kernel
theorem dX9_minds_197 : decode cX9_minds 197 = .ok (.goto 5, 3) := by decide +kernel
theorem dX9_minds_200 : decode cX9_minds 200 = .ok (.iload 4, 2) := by decide +kernel
theorem dX9_minds_202 : decode cX9_minds 202 = .ok (.ireturn, 1) := by decide +kernel
set_option maxRecDepth 20000 in
theorem ggX9_heirs_X9_in : GoodIn wsX9_heirs wsX9_in := goodIn_r _ [5] (by decide +kernel) (by decide +kernel)
set_option maxRecDepth 20000 in
theorem gX9_heirs_X9_in : GoodIn wsX9_heirs (va_wsS RX9 54 yX9_in wsX9_in) := goodIn_app (goodIn_of _ (by decide +kernel)) ggX9_heirs_X9_in
set_option maxRecDepth 20000 in
theorem ggX9_heirs_X9_isPart : GoodIn wsX9_heirs wsX9_isPart := goodIn_r _ [8, 9, 2, 3, 4, 5] (by decide +kernel) (by decide +kernel)
set_option maxRecDepth 20000 in
theorem gX9_heirs_X9_isPart : GoodIn wsX9_heirs (va_wsS RX9 95 yX9_isPart wsX9_isPart) := goodIn_app (goodIn_of _ (by decide +kernel)) ggX9_heirs_X9_isPart
set_option maxRecDepth 20000 in
theorem ggX9_heirs_X9_finds : GoodIn wsX9_heirs wsX9_finds := goodIn_r _ [13, 14, 15, 19, 20, 21, 22, 23, 24, 25, 26, 27, 28, 29, 30, 31, 32, 33, 34, 35, 36, 37, 38, 39, 40, 41] (by decide +kernel) (by decide +kernel)
set_option maxRecDepth 20000 in
theorem gX9_heirs_X9_finds : GoodIn wsX9_heirs (wsV RX9 68 RX9 yX9_finds wsX9_finds) := goodIn_app (goodIn_of _ (by decide +kernel)) ggX9_heirs_X9_finds
set_option maxRecDepth 20000 in
theorem ggX9_heirs_X9_common : GoodIn wsX9_heirs wsX9_common := goodIn_r _ [18] (by decide +kernel) (by decide +kernel)
set_option maxRecDepth 20000 in
theorem gX9_heirs_X9_common : GoodIn wsX9_heirs (va_wsS RX9 268 yX9_common wsX9_common) := goodIn_app (goodIn_of _ (by decide +kernel)) ggX9_heirs_X9_common
theorem dX9_heirs_0 : decode cX9_heirs 0 = .ok (.iload_n 1, 1) := by decide +kernel
theorem dX9_heirs_1 : decode cX9_heirs 1 = .ok (.i2l, 1) := by decide +kernel
theorem dX9_heirs_2 : decode cX9_heirs 2 = .ok (.lconst 0, 1) := by decide +kernel
theorem dX9_heirs_3 : decode cX9_heirs 3 = .ok (.ldc2_w 234, 3) := by decide +kernel
theorem dX9_heirs_6 : decode cX9_heirs 6 = .ok (.invokestatic 54, 3) := by decide +kernel
theorem dX9_heirs_9 : decode cX9_heirs 9 = .ok (.ifCond .eq 29, 3) := by decide +kernel
theorem dX9_heirs_12 : decode cX9_heirs 12 = .ok (.iload_n 2, 1) := by decide +kernel
theorem dX9_heirs_13 : decode cX9_heirs 13 = .ok (.invokestatic 95, 3) := by decide +kernel
theorem dX9_heirs_16 : decode cX9_heirs 16 = .ok (.ifCond .eq 22, 3) := by decide +kernel
theorem dX9_heirs_19 : decode cX9_heirs 19 = .ok (.iload_n 2, 1) := by decide +kernel
theorem dX9_heirs_20 : decode cX9_heirs 20 = .ok (.bipush 10, 2) := by decide +kernel
theorem dX9_heirs_22 : decode cX9_heirs 22 = .ok (.irem, 1) := by decide +kernel
theorem dX9_heirs_23 : decode cX9_heirs 23 = .ok (.bipush 6, 2) := by decide +kernel
theorem dX9_heirs_25 : decode cX9_heirs 25 = .ok (.if_icmp .gt 13, 3) := by decide +kernel
theorem dX9_heirs_28 : decode cX9_heirs 28 = .ok (.iload_n 3, 1) := by decide +kernel
theorem dX9_heirs_29 : decode cX9_heirs 29 = .ok (.i2l, 1) := by decide +kernel
theorem dX9_heirs_30 : decode cX9_heirs 30 = .ok (.lconst 0, 1) := by decide +kernel
theorem dX9_heirs_31 : decode cX9_heirs 31 = .ok (.lconst 1, 1) := by decide +kernel
theorem dX9_heirs_32 : decode cX9_heirs 32 = .ok (.invokestatic 54, 3) := by decide +kernel
theorem dX9_heirs_35 : decode cX9_heirs 35 = .ok (.ifCond .ne 10, 3) := by decide +kernel
theorem dX9_heirs_38 : decode cX9_heirs 38 = .ok (.aload_n 0, 1) := by decide +kernel
theorem dX9_heirs_39 : decode cX9_heirs 39 = .ok (.iconst 1, 1) := by decide +kernel
theorem dX9_heirs_40 : decode cX9_heirs 40 = .ok (.invokevirtual 68, 3) := by decide +kernel
theorem dX9_heirs_43 : decode cX9_heirs 43 = .ok (.i2l, 1) := by decide +kernel
theorem dX9_heirs_44 : decode cX9_heirs 44 = .ok (.lreturn, 1) := by decide +kernel
theorem dX9_heirs_45 : decode cX9_heirs 45 = .ok (.lconst 1, 1) := by decide +kernel
theorem dX9_heirs_46 : decode cX9_heirs 46 = .ok (.lstore 4, 2) := by decide +kernel
theorem dX9_heirs_48 : decode cX9_heirs 48 = .ok (.lconst 0, 1) := by decide +kernel
theorem dX9_heirs_49 : decode cX9_heirs 49 = .ok (.lstore 6, 2) := by decide +kernel
theorem dX9_heirs_51 : decode cX9_heirs 51 = .ok (.iconst 0, 1) := by decide +kernel
theorem dX9_heirs_52 : decode cX9_heirs 52 = .ok (.istore 8, 2) := by decide +kernel
theorem dX9_heirs_54 : decode cX9_heirs 54 = .ok (.iload 8, 2) := by decide +kernel
theorem dX9_heirs_56 : decode cX9_heirs 56 = .ok (.iload_n 1, 1) := by decide +kernel
theorem dX9_heirs_57 : decode cX9_heirs 57 = .ok (.if_icmp .ge 61, 3) := by decide +kernel
theorem dX9_heirs_60 : decode cX9_heirs 60 = .ok (.lload 4, 2) := by decide +kernel
theorem dX9_heirs_62 : decode cX9_heirs 62 = .ok (.lstore 9, 2) := by decide +kernel
theorem dX9_heirs_64 : decode cX9_heirs 64 = .ok (.lload 4, 2) := by decide +kernel
theorem dX9_heirs_66 : decode cX9_heirs 66 = .ok (.iload_n 2, 1) := by decide +kernel
theorem dX9_heirs_67 : decode cX9_heirs 67 = .ok (.bipush 10, 2) := by decide +kernel
theorem dX9_heirs_69 : decode cX9_heirs 69 = .ok (.irem, 1) := by decide +kernel
theorem dX9_heirs_70 : decode cX9_heirs 70 = .ok (.iload_n 2, 1) := by decide +kernel
theorem dX9_heirs_71 : decode cX9_heirs 71 = .ok (.bipush 10, 2) := by decide +kernel
theorem dX9_heirs_73 : decode cX9_heirs 73 = .ok (.idiv, 1) := by decide +kernel
theorem dX9_heirs_74 : decode cX9_heirs 74 = .ok (.isub, 1) := by decide +kernel
theorem dX9_heirs_75 : decode cX9_heirs 75 = .ok (.i2l, 1) := by decide +kernel
theorem dX9_heirs_76 : decode cX9_heirs 76 = .ok (.lmul, 1) := by decide +kernel
theorem dX9_heirs_77 : decode cX9_heirs 77 = .ok (.lload 6, 2) := by decide +kernel
theorem dX9_heirs_79 : decode cX9_heirs 79 = .ok (.iload_n 2, 1) := by decide +kernel
theorem dX9_heirs_80 : decode cX9_heirs 80 = .ok (.bipush 10, 2) := by decide +kernel
theorem dX9_heirs_82 : decode cX9_heirs 82 = .ok (.idiv, 1) := by decide +kernel
theorem dX9_heirs_83 : decode cX9_heirs 83 = .ok (.i2l, 1) := by decide +kernel
theorem dX9_heirs_84 : decode cX9_heirs 84 = .ok (.lmul, 1) := by decide +kernel
theorem dX9_heirs_85 : decode cX9_heirs 85 = .ok (.ladd, 1) := by decide +kernel
theorem dX9_heirs_86 : decode cX9_heirs 86 = .ok (.lstore 4, 2) := by decide +kernel
theorem dX9_heirs_88 : decode cX9_heirs 88 = .ok (.lload 6, 2) := by decide +kernel
theorem dX9_heirs_90 : decode cX9_heirs 90 = .ok (.iload_n 2, 1) := by decide +kernel
theorem dX9_heirs_91 : decode cX9_heirs 91 = .ok (.bipush 10, 2) := by decide +kernel
theorem dX9_heirs_93 : decode cX9_heirs 93 = .ok (.irem, 1) := by decide +kernel
theorem dX9_heirs_94 : decode cX9_heirs 94 = .ok (.iload_n 2, 1) := by decide +kernel
theorem dX9_heirs_95 : decode cX9_heirs 95 = .ok (.bipush 10, 2) := by decide +kernel
theorem dX9_heirs_97 : decode cX9_heirs 97 = .ok (.idiv, 1) := by decide +kernel
theorem dX9_heirs_98 : decode cX9_heirs 98 = .ok (.isub, 1) := by decide +kernel
theorem dX9_heirs_99 : decode cX9_heirs 99 = .ok (.i2l, 1) := by decide +kernel
theorem dX9_heirs_100 : decode cX9_heirs 100 = .ok (.lmul, 1) := by decide +kernel
theorem dX9_heirs_101 : decode cX9_heirs 101 = .ok (.lload 9, 2) := by decide +kernel
theorem dX9_heirs_103 : decode cX9_heirs 103 = .ok (.iload_n 2, 1) := by decide +kernel
theorem dX9_heirs_104 : decode cX9_heirs 104 = .ok (.bipush 10, 2) := by decide +kernel
theorem dX9_heirs_106 : decode cX9_heirs 106 = .ok (.idiv, 1) := by decide +kernel
theorem dX9_heirs_107 : decode cX9_heirs 107 = .ok (.i2l, 1) := by decide +kernel
theorem dX9_heirs_108 : decode cX9_heirs 108 = .ok (.lmul, 1) := by decide +kernel
theorem dX9_heirs_109 : decode cX9_heirs 109 = .ok (.ladd, 1) := by decide +kernel
theorem dX9_heirs_110 : decode cX9_heirs 110 = .ok (.lstore 6, 2) := by decide +kernel
theorem dX9_heirs_112 : decode cX9_heirs 112 = .ok (.iinc 8 1, 3) := by decide +kernel
theorem dX9_heirs_115 : decode cX9_heirs 115 = .ok (.goto (-61), 3) := by decide +kernel
theorem dX9_heirs_118 : decode cX9_heirs 118 = .ok (.lload 4, 2) := by decide +kernel
theorem dX9_heirs_120 : decode cX9_heirs 120 = .ok (.lload 4, 2) := by decide +kernel
theorem dX9_heirs_122 : decode cX9_heirs 122 = .ok (.lload 6, 2) := by decide +kernel
theorem dX9_heirs_124 : decode cX9_heirs 124 = .ok (.ladd, 1) := by decide +kernel
theorem dX9_heirs_125 : decode cX9_heirs 125 = .ok (.invokestatic 268, 3) := by decide +kernel
theorem dX9_heirs_128 : decode cX9_heirs 128 = .ok (.lstore 8, 2) := by decide +kernel
theorem dX9_heirs_130 : decode cX9_heirs 130 = .ok (.iload_n 3, 1) := by decide +kernel
theorem dX9_heirs_131 : decode cX9_heirs 131 = .ok (.ifCond .ne 11, 3) := by decide +kernel
theorem dX9_heirs_134 : decode cX9_heirs 134 = .ok (.lload 4, 2) := by decide +kernel
theorem dX9_heirs_136 : decode cX9_heirs 136 = .ok (.lload 8, 2) := by decide +kernel
theorem dX9_heirs_138 : decode cX9_heirs 138 = .ok (.ldiv, 1) := by decide +kernel
theorem dX9_heirs_139 : decode cX9_heirs 139 = .ok (.goto 11, 3) := by decide +kernel
theorem dX9_heirs_142 : decode cX9_heirs 142 = .ok (.lload 4, 2) := by decide +kernel
theorem dX9_heirs_144 : decode cX9_heirs 144 = .ok (.lload 6, 2) := by decide +kernel
theorem dX9_heirs_146 : decode cX9_heirs 146 = .ok (.ladd, 1) := by decide +kernel
theorem dX9_heirs_147 : decode cX9_heirs 147 = .ok (.lload 8, 2) := by decide +kernel
theorem dX9_heirs_149 : decode cX9_heirs 149 = .ok (.ldiv, 1) := by decide +kernel
theorem dX9_heirs_150 : decode cX9_heirs 150 = .ok (.lreturn, 1) := by decide +kernel
set_option maxRecDepth 20000 in
theorem ggX9_goods_X9_areFt : GoodIn wsX9_goods wsX9_areFt := goodIn_r _ [8, 9, 10, 11, 7, 12, 13, 14, 15, 16, 3, 17, 18, 19, 35, 36, 37, 38, 39, 40, 41, 42, 43, 44, 45, 46, 47, 48, 49, 50, 51, 52, 53, 54, 55, 56, 57] (by decide +kernel) (by decide +kernel)
set_option maxRecDepth 20000 in
theorem gX9_goods_X9_areFt : GoodIn wsX9_goods (wsV RX9 108 RX9 yX9_areFt wsX9_areFt) := goodIn_app (goodIn_of _ (by decide +kernel)) ggX9_goods_X9_areFt
set_option maxRecDepth 20000 in
theorem ggX9_goods_X9_in : GoodIn wsX9_goods wsX9_in := goodIn_r _ [19] (by decide +kernel) (by decide +kernel)
set_option maxRecDepth 20000 in
theorem gX9_goods_X9_in : GoodIn wsX9_goods (va_wsS RX9 54 yX9_in wsX9_in) := goodIn_app (goodIn_of _ (by decide +kernel)) ggX9_goods_X9_in
set_option maxRecDepth 20000 in
theorem ggX9_goods_X9_finds : GoodIn wsX9_goods wsX9_finds := goodIn_r _ [23, 24, 25, 35, 36, 37, 38, 39, 40, 41, 42, 43, 44, 45, 46, 47, 48, 49, 50, 51, 52, 53, 54, 55, 56, 57] (by decide +kernel) (by decide +kernel)
set_option maxRecDepth 20000 in
theorem gX9_goods_X9_finds : GoodIn wsX9_goods (wsV RX9 68 RX9 yX9_finds wsX9_finds) := goodIn_app (goodIn_of _ (by decide +kernel)) ggX9_goods_X9_finds
set_option maxRecDepth 20000 in
theorem ggX9_goods_X9_wayOf : GoodIn wsX9_goods wsX9_wayOf := goodIn_r _ [29, 30, 31, 32, 33, 7, 34, 3, 35, 36, 37, 38, 39, 40, 41, 42, 43, 44, 45, 46, 47, 48, 49, 50, 51, 52, 53, 54, 55, 56, 57] (by decide +kernel) (by decide +kernel)
set_option maxRecDepth 20000 in
theorem gX9_goods_X9_wayOf : GoodIn wsX9_goods (wsV RX9 77 RX9 yX9_wayOf wsX9_wayOf) := goodIn_app (goodIn_of _ (by decide +kernel)) ggX9_goods_X9_wayOf
theorem dX9_goods_0 : decode cX9_goods 0 = .ok (.aload_n 0, 1) := by decide +kernel
theorem dX9_goods_1 : decode cX9_goods 1 = .ok (.iload_n 1, 1) := by decide +kernel
theorem dX9_goods_2 : decode cX9_goods 2 = .ok (.invokevirtual 108, 3) := by decide +kernel
theorem dX9_goods_5 : decode cX9_goods 5 = .ok (.ifCond .eq 27, 3) := by decide +kernel
theorem dX9_goods_8 : decode cX9_goods 8 = .ok (.iload_n 2, 1) := by decide +kernel
theorem dX9_goods_9 : decode cX9_goods 9 = .ok (.i2l, 1) := by decide +kernel
theorem dX9_goods_10 : decode cX9_goods 10 = .ok (.lconst 0, 1) := by decide +kernel
theorem dX9_goods_11 : decode cX9_goods 11 = .ok (.ldc2_w 295, 3) := by decide +kernel
theorem dX9_goods_14 : decode cX9_goods 14 = .ok (.invokestatic 54, 3) := by decide +kernel
theorem dX9_goods_17 : decode cX9_goods 17 = .ok (.ifCond .eq 15, 3) := by decide +kernel
theorem dX9_goods_20 : decode cX9_goods 20 = .ok (.iload_n 3, 1) := by decide +kernel
theorem dX9_goods_21 : decode cX9_goods 21 = .ok (.i2l, 1) := by decide +kernel
theorem dX9_goods_22 : decode cX9_goods 22 = .ok (.lconst 0, 1) := by decide +kernel
theorem dX9_goods_23 : decode cX9_goods 23 = .ok (.ldc2_w 89, 3) := by decide +kernel
theorem dX9_goods_26 : decode cX9_goods 26 = .ok (.invokestatic 54, 3) := by decide +kernel
theorem dX9_goods_29 : decode cX9_goods 29 = .ok (.ifCond .ne 9, 3) := by decide +kernel
theorem dX9_goods_32 : decode cX9_goods 32 = .ok (.aload_n 0, 1) := by decide +kernel
theorem dX9_goods_33 : decode cX9_goods 33 = .ok (.iconst 1, 1) := by decide +kernel
theorem dX9_goods_34 : decode cX9_goods 34 = .ok (.invokevirtual 68, 3) := by decide +kernel
theorem dX9_goods_37 : decode cX9_goods 37 = .ok (.ireturn, 1) := by decide +kernel
theorem dX9_goods_38 : decode cX9_goods 38 = .ok (.aload_n 0, 1) := by decide +kernel
theorem dX9_goods_39 : decode cX9_goods 39 = .ok (.iload_n 1, 1) := by decide +kernel
theorem dX9_goods_40 : decode cX9_goods 40 = .ok (.bipush 10, 2) := by decide +kernel
theorem dX9_goods_42 : decode cX9_goods 42 = .ok (.idiv, 1) := by decide +kernel
theorem dX9_goods_43 : decode cX9_goods 43 = .ok (.iload_n 1, 1) := by decide +kernel
theorem dX9_goods_44 : decode cX9_goods 44 = .ok (.bipush 10, 2) := by decide +kernel
theorem dX9_goods_46 : decode cX9_goods 46 = .ok (.irem, 1) := by decide +kernel
theorem dX9_goods_47 : decode cX9_goods 47 = .ok (.invokevirtual 77, 3) := by decide +kernel
theorem dX9_goods_50 : decode cX9_goods 50 = .ok (.aload_n 0, 1) := by decide +kernel
theorem dX9_goods_51 : decode cX9_goods 51 = .ok (.getfield 7, 3) := by decide +kernel
theorem dX9_goods_54 : decode cX9_goods 54 = .ok (.bipush 6, 2) := by decide +kernel
theorem dX9_goods_56 : decode cX9_goods 56 = .ok (.iaload, 1) := by decide +kernel
theorem dX9_goods_57 : decode cX9_goods 57 = .ok (.imul, 1) := by decide +kernel
theorem dX9_goods_58 : decode cX9_goods 58 = .ok (.istore 4, 2) := by decide +kernel
theorem dX9_goods_60 : decode cX9_goods 60 = .ok (.iload 4, 2) := by decide +kernel
theorem dX9_goods_62 : decode cX9_goods 62 = .ok (.ifCond .ge 9, 3) := by decide +kernel
theorem dX9_goods_65 : decode cX9_goods 65 = .ok (.aload_n 0, 1) := by decide +kernel
theorem dX9_goods_66 : decode cX9_goods 66 = .ok (.iconst 2, 1) := by decide +kernel
theorem dX9_goods_67 : decode cX9_goods 67 = .ok (.invokevirtual 68, 3) := by decide +kernel
theorem dX9_goods_70 : decode cX9_goods 70 = .ok (.ireturn, 1) := by decide +kernel
theorem dX9_goods_71 : decode cX9_goods 71 = .ok (.iload_n 2, 1) := by decide +kernel
theorem dX9_goods_72 : decode cX9_goods 72 = .ok (.istore 5, 2) := by decide +kernel
theorem dX9_goods_74 : decode cX9_goods 74 = .ok (.iconst 0, 1) := by decide +kernel
theorem dX9_goods_75 : decode cX9_goods 75 = .ok (.istore 6, 2) := by decide +kernel
theorem dX9_goods_77 : decode cX9_goods 77 = .ok (.iload 6, 2) := by decide +kernel
theorem dX9_goods_79 : decode cX9_goods 79 = .ok (.iload 4, 2) := by decide +kernel
theorem dX9_goods_81 : decode cX9_goods 81 = .ok (.if_icmp .ge 21, 3) := by decide +kernel
theorem dX9_goods_84 : decode cX9_goods 84 = .ok (.iload 5, 2) := by decide +kernel
theorem dX9_goods_86 : decode cX9_goods 86 = .ok (.iload 5, 2) := by decide +kernel
theorem dX9_goods_88 : decode cX9_goods 88 = .ok (.iload_n 3, 1) := by decide +kernel
theorem dX9_goods_89 : decode cX9_goods 89 = .ok (.imul, 1) := by decide +kernel
theorem dX9_goods_90 : decode cX9_goods 90 = .ok (.bipush 100, 2) := by decide +kernel
theorem dX9_goods_92 : decode cX9_goods 92 = .ok (.idiv, 1) := by decide +kernel
theorem dX9_goods_93 : decode cX9_goods 93 = .ok (.isub, 1) := by decide +kernel
theorem dX9_goods_94 : decode cX9_goods 94 = .ok (.istore 5, 2) := by decide +kernel
theorem dX9_goods_96 : decode cX9_goods 96 = .ok (.iinc 6 1, 3) := by decide +kernel
theorem dX9_goods_99 : decode cX9_goods 99 = .ok (.goto (-22), 3) := by decide +kernel
theorem dX9_goods_102 : decode cX9_goods 102 = .ok (.iload 5, 2) := by decide +kernel
theorem dX9_goods_104 : decode cX9_goods 104 = .ok (.ireturn, 1) := by decide +kernel
theorem dX9_seed_0 : decode cX9_seed 0 = .ok (.aload_n 0, 1) := by decide +kernel
theorem dX9_seed_1 : decode cX9_seed 1 = .ok (.getfield 7, 3) := by decide +kernel
theorem dX9_seed_4 : decode cX9_seed 4 = .ok (.iconst 4, 1) := by decide +kernel
theorem dX9_seed_5 : decode cX9_seed 5 = .ok (.iaload, 1) := by decide +kernel
theorem dX9_seed_6 : decode cX9_seed 6 = .ok (.istore_n 2, 1) := by decide +kernel
theorem dX9_seed_7 : decode cX9_seed 7 = .ok (.aload_n 0, 1) := by decide +kernel
theorem dX9_seed_8 : decode cX9_seed 8 = .ok (.getfield 7, 3) := by decide +kernel
theorem dX9_seed_11 : decode cX9_seed 11 = .ok (.iconst 4, 1) := by decide +kernel
theorem dX9_seed_12 : decode cX9_seed 12 = .ok (.iload_n 1, 1) := by decide +kernel
theorem dX9_seed_13 : decode cX9_seed 13 = .ok (.iastore, 1) := by decide +kernel
theorem dX9_seed_14 : decode cX9_seed 14 = .ok (.iload_n 2, 1) := by decide +kernel
theorem dX9_seed_15 : decode cX9_seed 15 = .ok (.ireturn, 1) := by decide +kernel
theorem dX9_ran_0 : decode cX9_ran 0 = .ok (.aload_n 0, 1) := by decide +kernel
theorem dX9_ran_1 : decode cX9_ran 1 = .ok (.getfield 297, 3) := by decide +kernel
theorem dX9_ran_4 : decode cX9_ran 4 = .ok (.bipush 40, 2) := by decide +kernel
theorem dX9_ran_6 : decode cX9_ran 6 = .ok (.if_icmp .ge 23, 3) := by decide +kernel
theorem dX9_ran_9 : decode cX9_ran 9 = .ok (.aload_n 0, 1) := by decide +kernel
theorem dX9_ran_10 : decode cX9_ran 10 = .ok (.getfield 38, 3) := by decide +kernel
theorem dX9_ran_13 : decode cX9_ran 13 = .ok (.aload_n 0, 1) := by decide +kernel
theorem dX9_ran_14 : decode cX9_ran 14 = .ok (.getfield 297, 3) := by decide +kernel
theorem dX9_ran_17 : decode cX9_ran 17 = .ok (.iload_n 1, 1) := by decide +kernel
theorem dX9_ran_18 : decode cX9_ran 18 = .ok (.iastore, 1) := by decide +kernel
theorem dX9_ran_19 : decode cX9_ran 19 = .ok (.aload_n 0, 1) := by decide +kernel
theorem dX9_ran_20 : decode cX9_ran 20 = .ok (.dup, 1) := by decide +kernel
theorem dX9_ran_21 : decode cX9_ran 21 = .ok (.getfield 297, 3) := by decide +kernel
theorem dX9_ran_24 : decode cX9_ran 24 = .ok (.iconst 1, 1) := by decide +kernel
theorem dX9_ran_25 : decode cX9_ran 25 = .ok (.iadd, 1) := by decide +kernel
theorem dX9_ran_26 : decode cX9_ran 26 = .ok (.putfield 297, 3) := by decide +kernel
theorem dX9_ran_29 : decode cX9_ran 29 = .ok (.return_, 1) := by decide +kernel
theorem dX9_above_0 : decode cX9_above 0 = .ok (.iload_n 0, 1) := by decide +kernel
theorem dX9_above_1 : decode cX9_above 1 = .ok (.iconst 2, 1) := by decide +kernel
theorem dX9_above_2 : decode cX9_above 2 = .ok (.if_icmp .ne 7, 3) := by decide +kernel
theorem dX9_above_5 : decode cX9_above 5 = .ok (.iconst 1, 1) := by decide +kernel
theorem dX9_above_6 : decode cX9_above 6 = .ok (.goto 13, 3) := by decide +kernel
theorem dX9_above_9 : decode cX9_above 9 = .ok (.iload_n 0, 1) := by decide +kernel
theorem dX9_above_10 : decode cX9_above 10 = .ok (.iconst 5, 1) := by decide +kernel
theorem dX9_above_11 : decode cX9_above 11 = .ok (.if_icmp .ne 7, 3) := by decide +kernel
theorem dX9_above_14 : decode cX9_above 14 = .ok (.iconst 3, 1) := by decide +kernel
theorem dX9_above_15 : decode cX9_above 15 = .ok (.goto 4, 3) := by decide +kernel
theorem dX9_above_18 : decode cX9_above 18 = .ok (.iconst 0, 1) := by decide +kernel
theorem dX9_above_19 : decode cX9_above 19 = .ok (.ireturn, 1) := by decide +kernel
set_option maxRecDepth 20000 in
theorem ggX9_own_X9_wo : GoodIn wsX9_own wsX9_wo := goodIn_r _ [6, 7, 8, 9, 10, 11, 12, 13, 14, 15, 16, 17, 18, 19, 20, 21, 22, 23, 24, 25, 26, 27, 28, 29, 30] (by decide +kernel) (by decide +kernel)
set_option maxRecDepth 20000 in
theorem gX9_own_X9_wo : GoodIn wsX9_own (wsV RX9 99 RX9 yX9_wo wsX9_wo) := goodIn_app (goodIn_of _ (by decide +kernel)) ggX9_own_X9_wo
theorem dX9_own_0 : decode cX9_own 0 = .ok (.aload_n 0, 1) := by decide +kernel
theorem dX9_own_1 : decode cX9_own 1 = .ok (.aload_n 0, 1) := by decide +kernel
theorem dX9_own_2 : decode cX9_own 2 = .ok (.getfield 300, 3) := by decide +kernel
theorem dX9_own_5 : decode cX9_own 5 = .ok (.iconst 0, 1) := by decide +kernel
theorem dX9_own_6 : decode cX9_own 6 = .ok (.invokevirtual 99, 3) := by decide +kernel
theorem dX9_own_9 : decode cX9_own 9 = .ok (.ireturn, 1) := by decide +kernel
set_option maxRecDepth 20000 in
theorem ggX9_binds_X9_ran : GoodIn wsX9_binds wsX9_ran := goodIn_r _ [6, 7, 8, 20, 21, 22, 23, 24, 25, 26, 27, 28, 29, 30, 31, 32, 33, 34, 35, 36, 37, 38, 39, 40, 41, 42] (by decide +kernel) (by decide +kernel)
set_option maxRecDepth 20000 in
theorem gX9_binds_X9_ran : GoodIn wsX9_binds (wsV RX9 303 RX9 yX9_ran wsX9_ran) := goodIn_app (goodIn_of _ (by decide +kernel)) ggX9_binds_X9_ran
set_option maxRecDepth 20000 in
theorem ggX9_binds_X9_above : GoodIn wsX9_binds wsX9_above := goodIn_r _ [11] (by decide +kernel) (by decide +kernel)
set_option maxRecDepth 20000 in
theorem gX9_binds_X9_above : GoodIn wsX9_binds (va_wsS RX9 306 yX9_above wsX9_above) := goodIn_app (goodIn_of _ (by decide +kernel)) ggX9_binds_X9_above
set_option maxRecDepth 20000 in
theorem ggX9_binds_X9_binds : GoodIn wsX9_binds wsX9_binds := goodIn_r _ [0, 1, 2, 3, 4, 5, 6, 7, 8, 9, 10, 11, 12, 13, 14, 15, 16, 17, 18, 19, 20, 21, 22, 23, 24, 25, 26, 27, 28, 29, 30, 31, 32, 33, 34, 35, 36, 37, 38, 39, 40, 41, 42] (by decide +kernel) (by decide +kernel)
set_option maxRecDepth 20000 in
theorem gX9_binds_X9_binds : GoodIn wsX9_binds (wsV RX9 309 RX9 yX9_binds wsX9_binds) := goodIn_app (goodIn_of _ (by decide +kernel)) ggX9_binds_X9_binds
set_option maxRecDepth 20000 in
theorem ggX9_binds_X9_wo : GoodIn wsX9_binds wsX9_wo := goodIn_r _ [18, 19, 20, 21, 22, 23, 24, 25, 26, 27, 28, 29, 30, 31, 32, 33, 34, 35, 36, 37, 38, 39, 40, 41, 42] (by decide +kernel) (by decide +kernel)
set_option maxRecDepth 20000 in
theorem gX9_binds_X9_wo : GoodIn wsX9_binds (wsV RX9 99 RX9 yX9_wo wsX9_wo) := goodIn_app (goodIn_of _ (by decide +kernel)) ggX9_binds_X9_wo
theorem dX9_binds_0 : decode cX9_binds 0 = .ok (.iload_n 1, 1) := by decide +kernel
theorem dX9_binds_1 : decode cX9_binds 1 = .ok (.tableswitch 120 0 6 #[43, 56, 74, 120, 120, 120, 92], 43) := by decide +kernel
theorem dX9_binds_44 : decode cX9_binds 44 = .ok (.aload_n 0, 1) := by decide +kernel
theorem dX9_binds_45 : decode cX9_binds 45 = .ok (.bipush 10, 2) := by decide +kernel
theorem dX9_binds_47 : decode cX9_binds 47 = .ok (.invokevirtual 303, 3) := by decide +kernel
theorem dX9_binds_50 : decode cX9_binds 50 = .ok (.iload_n 2, 1) := by decide +kernel
theorem dX9_binds_51 : decode cX9_binds 51 = .ok (.aload_n 0, 1) := by decide +kernel
theorem dX9_binds_52 : decode cX9_binds 52 = .ok (.getfield 300, 3) := by decide +kernel
theorem dX9_binds_55 : decode cX9_binds 55 = .ok (.iadd, 1) := by decide +kernel
theorem dX9_binds_56 : decode cX9_binds 56 = .ok (.ireturn, 1) := by decide +kernel
theorem dX9_binds_57 : decode cX9_binds 57 = .ok (.aload_n 0, 1) := by decide +kernel
theorem dX9_binds_58 : decode cX9_binds 58 = .ok (.bipush 20, 2) := by decide +kernel
theorem dX9_binds_60 : decode cX9_binds 60 = .ok (.invokevirtual 303, 3) := by decide +kernel
theorem dX9_binds_63 : decode cX9_binds 63 = .ok (.aload_n 0, 1) := by decide +kernel
theorem dX9_binds_64 : decode cX9_binds 64 = .ok (.iconst 1, 1) := by decide +kernel
theorem dX9_binds_65 : decode cX9_binds 65 = .ok (.invokestatic 306, 3) := by decide +kernel
theorem dX9_binds_68 : decode cX9_binds 68 = .ok (.iload_n 2, 1) := by decide +kernel
theorem dX9_binds_69 : decode cX9_binds 69 = .ok (.invokevirtual 309, 3) := by decide +kernel
theorem dX9_binds_72 : decode cX9_binds 72 = .ok (.iconst 2, 1) := by decide +kernel
theorem dX9_binds_73 : decode cX9_binds 73 = .ok (.isub, 1) := by decide +kernel
theorem dX9_binds_74 : decode cX9_binds 74 = .ok (.ireturn, 1) := by decide +kernel
theorem dX9_binds_75 : decode cX9_binds 75 = .ok (.aload_n 0, 1) := by decide +kernel
theorem dX9_binds_76 : decode cX9_binds 76 = .ok (.bipush 31, 2) := by decide +kernel
theorem dX9_binds_78 : decode cX9_binds 78 = .ok (.invokevirtual 303, 3) := by decide +kernel
theorem dX9_binds_81 : decode cX9_binds 81 = .ok (.aload_n 0, 1) := by decide +kernel
theorem dX9_binds_82 : decode cX9_binds 82 = .ok (.iconst 2, 1) := by decide +kernel
theorem dX9_binds_83 : decode cX9_binds 83 = .ok (.invokestatic 306, 3) := by decide +kernel
theorem dX9_binds_86 : decode cX9_binds 86 = .ok (.iload_n 2, 1) := by decide +kernel
theorem dX9_binds_87 : decode cX9_binds 87 = .ok (.invokevirtual 309, 3) := by decide +kernel
theorem dX9_binds_90 : decode cX9_binds 90 = .ok (.iconst 3, 1) := by decide +kernel
theorem dX9_binds_91 : decode cX9_binds 91 = .ok (.imul, 1) := by decide +kernel
theorem dX9_binds_92 : decode cX9_binds 92 = .ok (.ireturn, 1) := by decide +kernel
theorem dX9_binds_93 : decode cX9_binds 93 = .ok (.aload_n 0, 1) := by decide +kernel
theorem dX9_binds_94 : decode cX9_binds 94 = .ok (.bipush 70, 2) := by decide +kernel
theorem dX9_binds_96 : decode cX9_binds 96 = .ok (.invokevirtual 303, 3) := by decide +kernel
theorem dX9_binds_99 : decode cX9_binds 99 = .ok (.aload_n 0, 1) := by decide +kernel
theorem dX9_binds_100 : decode cX9_binds 100 = .ok (.bipush 6, 2) := by decide +kernel
theorem dX9_binds_102 : decode cX9_binds 102 = .ok (.invokestatic 306, 3) := by decide +kernel
theorem dX9_binds_105 : decode cX9_binds 105 = .ok (.iload_n 2, 1) := by decide +kernel
theorem dX9_binds_106 : decode cX9_binds 106 = .ok (.invokevirtual 309, 3) := by decide +kernel
theorem dX9_binds_109 : decode cX9_binds 109 = .ok (.aload_n 0, 1) := by decide +kernel
theorem dX9_binds_110 : decode cX9_binds 110 = .ok (.aload_n 0, 1) := by decide +kernel
theorem dX9_binds_111 : decode cX9_binds 111 = .ok (.getfield 300, 3) := by decide +kernel
theorem dX9_binds_114 : decode cX9_binds 114 = .ok (.bipush 6, 2) := by decide +kernel
theorem dX9_binds_116 : decode cX9_binds 116 = .ok (.invokevirtual 99, 3) := by decide +kernel
theorem dX9_binds_119 : decode cX9_binds 119 = .ok (.iadd, 1) := by decide +kernel
theorem dX9_binds_120 : decode cX9_binds 120 = .ok (.ireturn, 1) := by decide +kernel
theorem dX9_binds_121 : decode cX9_binds 121 = .ok (.aload_n 0, 1) := by decide +kernel
theorem dX9_binds_122 : decode cX9_binds 122 = .ok (.iload_n 1, 1) := by decide +kernel
theorem dX9_binds_123 : decode cX9_binds 123 = .ok (.invokestatic 306, 3) := by decide +kernel
theorem dX9_binds_126 : decode cX9_binds 126 = .ok (.iload_n 2, 1) := by decide +kernel
theorem dX9_binds_127 : decode cX9_binds 127 = .ok (.invokevirtual 309, 3) := by decide +kernel
theorem dX9_binds_130 : decode cX9_binds 130 = .ok (.ireturn, 1) := by decide +kernel
set_option maxRecDepth 20000 in
theorem ggX9_whom_X9_ran : GoodIn wsX9_whom wsX9_ran := goodIn_r _ [6, 7, 8, 32, 33, 34, 35, 36, 37, 38, 39, 40, 41, 42, 43, 44, 45, 46, 47, 48, 49, 50, 51, 52, 53, 54] (by decide +kernel) (by decide +kernel)
set_option maxRecDepth 20000 in
theorem gX9_whom_X9_ran : GoodIn wsX9_whom (wsV RX9 303 RX9 yX9_ran wsX9_ran) := goodIn_app (goodIn_of _ (by decide +kernel)) ggX9_whom_X9_ran
set_option maxRecDepth 20000 in
theorem ggX9_whom_X9_own : GoodIn wsX9_whom wsX9_own := goodIn_r _ [12, 1, 13, 14, 15, 5, 16, 17, 32, 33, 34, 35, 36, 37, 38, 39, 40, 41, 42, 43, 44, 45, 46, 47, 48, 49, 50, 51, 52, 53, 54] (by decide +kernel) (by decide +kernel)
set_option maxRecDepth 20000 in
theorem gX9_whom_X9_own : GoodIn wsX9_whom (wsV RX9 312 RX9 yX9_own wsX9_own) := goodIn_app (goodIn_of _ (by decide +kernel)) ggX9_whom_X9_own
set_option maxRecDepth 20000 in
theorem ggX9_whom_X9_binds : GoodIn wsX9_whom wsX9_binds := goodIn_r _ [21, 1, 2, 3, 4, 5, 6, 7, 8, 22, 23, 24, 18, 19, 20, 13, 14, 15, 16, 17, 32, 33, 34, 35, 36, 37, 38, 39, 40, 41, 42, 43, 44, 45, 46, 47, 48, 49, 50, 51, 52, 53, 54] (by decide +kernel) (by decide +kernel)
set_option maxRecDepth 20000 in
theorem gX9_whom_X9_binds : GoodIn wsX9_whom (wsV RX9 309 RX9 yX9_binds wsX9_binds) := goodIn_app (goodIn_of _ (by decide +kernel)) ggX9_whom_X9_binds
set_option maxRecDepth 20000 in
theorem ggX9_whom_X9_above : GoodIn wsX9_whom wsX9_above := goodIn_r _ [24] (by decide +kernel) (by decide +kernel)
set_option maxRecDepth 20000 in
theorem gX9_whom_X9_above : GoodIn wsX9_whom (va_wsS RX9 306 yX9_above wsX9_above) := goodIn_app (goodIn_of _ (by decide +kernel)) ggX9_whom_X9_above
set_option maxRecDepth 20000 in
theorem ggX9_whom_X9_whom : GoodIn wsX9_whom wsX9_whom := goodIn_r _ [0, 1, 2, 3, 4, 5, 6, 7, 8, 9, 10, 11, 12, 13, 14, 15, 16, 17, 18, 19, 20, 21, 22, 23, 24, 25, 26, 27, 28, 29, 30, 31, 32, 33, 34, 35, 36, 37, 38, 39, 40, 41, 42, 43, 44, 45, 46, 47, 48, 49, 50, 51, 52, 53, 54] (by decide +kernel) (by decide +kernel)
set_option maxRecDepth 20000 in
theorem gX9_whom_X9_whom : GoodIn wsX9_whom (wsV RX9 315 RX9 yX9_whom wsX9_whom) := goodIn_app (goodIn_of _ (by decide +kernel)) ggX9_whom_X9_whom
set_option maxRecDepth 20000 in
theorem ggX9_whom_X9_from : GoodIn wsX9_whom wsX9_from := goodIn_r _ [31, 1, 2, 3, 4, 5, 6, 7, 8, 13, 14, 15, 16, 17, 22, 23, 24, 28, 29, 30, 32, 33, 34, 35, 36, 37, 38, 39, 40, 41, 42, 43, 44, 45, 46, 47, 48, 49, 50, 51, 52, 53, 54] (by decide +kernel) (by decide +kernel)
set_option maxRecDepth 20000 in
theorem gX9_whom_X9_from : GoodIn wsX9_whom (wsV RX9 318 RX9 yX9_from wsX9_from) := goodIn_app (goodIn_of _ (by decide +kernel)) ggX9_whom_X9_from
theorem dX9_whom_0 : decode cX9_whom 0 = .ok (.iload_n 1, 1) := by decide +kernel
theorem dX9_whom_1 : decode cX9_whom 1 = .ok (.lookupswitch 102 #[(0, 35), (2, 53), (5, 81)], 35) := by decide +kernel
theorem dX9_whom_36 : decode cX9_whom 36 = .ok (.aload_n 0, 1) := by decide +kernel
theorem dX9_whom_37 : decode cX9_whom 37 = .ok (.bipush 11, 2) := by decide +kernel
theorem dX9_whom_39 : decode cX9_whom 39 = .ok (.invokevirtual 303, 3) := by decide +kernel
theorem dX9_whom_42 : decode cX9_whom 42 = .ok (.aload_n 0, 1) := by decide +kernel
theorem dX9_whom_43 : decode cX9_whom 43 = .ok (.aload_n 0, 1) := by decide +kernel
theorem dX9_whom_44 : decode cX9_whom 44 = .ok (.invokevirtual 312, 3) := by decide +kernel
theorem dX9_whom_47 : decode cX9_whom 47 = .ok (.iload_n 2, 1) := by decide +kernel
theorem dX9_whom_48 : decode cX9_whom 48 = .ok (.invokevirtual 309, 3) := by decide +kernel
theorem dX9_whom_51 : decode cX9_whom 51 = .ok (.iconst 2, 1) := by decide +kernel
theorem dX9_whom_52 : decode cX9_whom 52 = .ok (.imul, 1) := by decide +kernel
theorem dX9_whom_53 : decode cX9_whom 53 = .ok (.ireturn, 1) := by decide +kernel
theorem dX9_whom_54 : decode cX9_whom 54 = .ok (.aload_n 0, 1) := by decide +kernel
theorem dX9_whom_55 : decode cX9_whom 55 = .ok (.bipush 30, 2) := by decide +kernel
theorem dX9_whom_57 : decode cX9_whom 57 = .ok (.invokevirtual 303, 3) := by decide +kernel
theorem dX9_whom_60 : decode cX9_whom 60 = .ok (.aload_n 0, 1) := by decide +kernel
theorem dX9_whom_61 : decode cX9_whom 61 = .ok (.iconst 2, 1) := by decide +kernel
theorem dX9_whom_62 : decode cX9_whom 62 = .ok (.invokestatic 306, 3) := by decide +kernel
theorem dX9_whom_65 : decode cX9_whom 65 = .ok (.iload_n 2, 1) := by decide +kernel
theorem dX9_whom_66 : decode cX9_whom 66 = .ok (.invokevirtual 315, 3) := by decide +kernel
theorem dX9_whom_69 : decode cX9_whom 69 = .ok (.istore_n 3, 1) := by decide +kernel
theorem dX9_whom_70 : decode cX9_whom 70 = .ok (.iload_n 3, 1) := by decide +kernel
theorem dX9_whom_71 : decode cX9_whom 71 = .ok (.aload_n 0, 1) := by decide +kernel
theorem dX9_whom_72 : decode cX9_whom 72 = .ok (.aload_n 0, 1) := by decide +kernel
theorem dX9_whom_73 : decode cX9_whom 73 = .ok (.invokevirtual 312, 3) := by decide +kernel
theorem dX9_whom_76 : decode cX9_whom 76 = .ok (.iconst 1, 1) := by decide +kernel
theorem dX9_whom_77 : decode cX9_whom 77 = .ok (.invokevirtual 318, 3) := by decide +kernel
theorem dX9_whom_80 : decode cX9_whom 80 = .ok (.iadd, 1) := by decide +kernel
theorem dX9_whom_81 : decode cX9_whom 81 = .ok (.ireturn, 1) := by decide +kernel
theorem dX9_whom_82 : decode cX9_whom 82 = .ok (.aload_n 0, 1) := by decide +kernel
theorem dX9_whom_83 : decode cX9_whom 83 = .ok (.bipush 61, 2) := by decide +kernel
theorem dX9_whom_85 : decode cX9_whom 85 = .ok (.invokevirtual 303, 3) := by decide +kernel
theorem dX9_whom_88 : decode cX9_whom 88 = .ok (.aload_n 0, 1) := by decide +kernel
theorem dX9_whom_89 : decode cX9_whom 89 = .ok (.iconst 5, 1) := by decide +kernel
theorem dX9_whom_90 : decode cX9_whom 90 = .ok (.invokestatic 306, 3) := by decide +kernel
theorem dX9_whom_93 : decode cX9_whom 93 = .ok (.iload_n 2, 1) := by decide +kernel
theorem dX9_whom_94 : decode cX9_whom 94 = .ok (.invokevirtual 315, 3) := by decide +kernel
theorem dX9_whom_97 : decode cX9_whom 97 = .ok (.aload_n 0, 1) := by decide +kernel
theorem dX9_whom_98 : decode cX9_whom 98 = .ok (.getfield 300, 3) := by decide +kernel
theorem dX9_whom_101 : decode cX9_whom 101 = .ok (.ixor, 1) := by decide +kernel
theorem dX9_whom_102 : decode cX9_whom 102 = .ok (.ireturn, 1) := by decide +kernel
theorem dX9_whom_103 : decode cX9_whom 103 = .ok (.aload_n 0, 1) := by decide +kernel
theorem dX9_whom_104 : decode cX9_whom 104 = .ok (.iload_n 1, 1) := by decide +kernel
theorem dX9_whom_105 : decode cX9_whom 105 = .ok (.invokestatic 306, 3) := by decide +kernel
theorem dX9_whom_108 : decode cX9_whom 108 = .ok (.iload_n 2, 1) := by decide +kernel
theorem dX9_whom_109 : decode cX9_whom 109 = .ok (.invokevirtual 315, 3) := by decide +kernel
theorem dX9_whom_112 : decode cX9_whom 112 = .ok (.ireturn, 1) := by decide +kernel
set_option maxRecDepth 20000 in
theorem ggX9_from_X9_ran : GoodIn wsX9_from wsX9_ran := goodIn_r _ [6, 7, 8, 20, 21, 22, 23, 24, 25, 26, 27, 28, 29, 30, 31, 32, 33, 34, 35, 36, 37, 38, 39, 40, 41, 42] (by decide +kernel) (by decide +kernel)
set_option maxRecDepth 20000 in
theorem gX9_from_X9_ran : GoodIn wsX9_from (wsV RX9 303 RX9 yX9_ran wsX9_ran) := goodIn_app (goodIn_of _ (by decide +kernel)) ggX9_from_X9_ran
set_option maxRecDepth 20000 in
theorem ggX9_from_X9_wo : GoodIn wsX9_from wsX9_wo := goodIn_r _ [12, 13, 20, 21, 22, 23, 24, 25, 26, 27, 28, 29, 30, 31, 32, 33, 34, 35, 36, 37, 38, 39, 40, 41, 42] (by decide +kernel) (by decide +kernel)
set_option maxRecDepth 20000 in
theorem gX9_from_X9_wo : GoodIn wsX9_from (wsV RX9 99 RX9 yX9_wo wsX9_wo) := goodIn_app (goodIn_of _ (by decide +kernel)) ggX9_from_X9_wo
set_option maxRecDepth 20000 in
theorem ggX9_from_X9_above : GoodIn wsX9_from wsX9_above := goodIn_r _ [16] (by decide +kernel) (by decide +kernel)
set_option maxRecDepth 20000 in
theorem gX9_from_X9_above : GoodIn wsX9_from (va_wsS RX9 306 yX9_above wsX9_above) := goodIn_app (goodIn_of _ (by decide +kernel)) ggX9_from_X9_above
set_option maxRecDepth 20000 in
theorem ggX9_from_X9_from : GoodIn wsX9_from wsX9_from := goodIn_r _ [0, 1, 2, 3, 4, 5, 6, 7, 8, 9, 10, 11, 12, 13, 14, 15, 16, 17, 18, 19, 20, 21, 22, 23, 24, 25, 26, 27, 28, 29, 30, 31, 32, 33, 34, 35, 36, 37, 38, 39, 40, 41, 42] (by decide +kernel) (by decide +kernel)
set_option maxRecDepth 20000 in
theorem gX9_from_X9_from : GoodIn wsX9_from (wsV RX9 318 RX9 yX9_from wsX9_from) := goodIn_app (goodIn_of _ (by decide +kernel)) ggX9_from_X9_from
theorem dX9_from_0 : decode cX9_from 0 = .ok (.iload_n 1, 1) := by decide +kernel
theorem dX9_from_1 : decode cX9_from 1 = .ok (.lookupswitch 89 #[(0, 35), (3, 54), (5, 71)], 35) := by decide +kernel
theorem dX9_from_36 : decode cX9_from 36 = .ok (.aload_n 0, 1) := by decide +kernel
theorem dX9_from_37 : decode cX9_from 37 = .ok (.bipush 12, 2) := by decide +kernel
theorem dX9_from_39 : decode cX9_from 39 = .ok (.invokevirtual 303, 3) := by decide +kernel
theorem dX9_from_42 : decode cX9_from 42 = .ok (.iload_n 2, 1) := by decide +kernel
theorem dX9_from_43 : decode cX9_from 43 = .ok (.aload_n 0, 1) := by decide +kernel
theorem dX9_from_44 : decode cX9_from 44 = .ok (.aload_n 0, 1) := by decide +kernel
theorem dX9_from_45 : decode cX9_from 45 = .ok (.getfield 300, 3) := by decide +kernel
theorem dX9_from_48 : decode cX9_from 48 = .ok (.bipush 6, 2) := by decide +kernel
theorem dX9_from_50 : decode cX9_from 50 = .ok (.invokevirtual 99, 3) := by decide +kernel
theorem dX9_from_53 : decode cX9_from 53 = .ok (.isub, 1) := by decide +kernel
theorem dX9_from_54 : decode cX9_from 54 = .ok (.ireturn, 1) := by decide +kernel
theorem dX9_from_55 : decode cX9_from 55 = .ok (.aload_n 0, 1) := by decide +kernel
theorem dX9_from_56 : decode cX9_from 56 = .ok (.bipush 40, 2) := by decide +kernel
theorem dX9_from_58 : decode cX9_from 58 = .ok (.invokevirtual 303, 3) := by decide +kernel
theorem dX9_from_61 : decode cX9_from 61 = .ok (.aload_n 0, 1) := by decide +kernel
theorem dX9_from_62 : decode cX9_from 62 = .ok (.iconst 3, 1) := by decide +kernel
theorem dX9_from_63 : decode cX9_from 63 = .ok (.invokestatic 306, 3) := by decide +kernel
theorem dX9_from_66 : decode cX9_from 66 = .ok (.iload_n 2, 1) := by decide +kernel
theorem dX9_from_67 : decode cX9_from 67 = .ok (.invokevirtual 318, 3) := by decide +kernel
theorem dX9_from_70 : decode cX9_from 70 = .ok (.ineg, 1) := by decide +kernel
theorem dX9_from_71 : decode cX9_from 71 = .ok (.ireturn, 1) := by decide +kernel
theorem dX9_from_72 : decode cX9_from 72 = .ok (.aload_n 0, 1) := by decide +kernel
theorem dX9_from_73 : decode cX9_from 73 = .ok (.bipush 60, 2) := by decide +kernel
theorem dX9_from_75 : decode cX9_from 75 = .ok (.invokevirtual 303, 3) := by decide +kernel
theorem dX9_from_78 : decode cX9_from 78 = .ok (.aload_n 0, 1) := by decide +kernel
theorem dX9_from_79 : decode cX9_from 79 = .ok (.iconst 5, 1) := by decide +kernel
theorem dX9_from_80 : decode cX9_from 80 = .ok (.invokestatic 306, 3) := by decide +kernel
theorem dX9_from_83 : decode cX9_from 83 = .ok (.iload_n 2, 1) := by decide +kernel
theorem dX9_from_84 : decode cX9_from 84 = .ok (.iconst 1, 1) := by decide +kernel
theorem dX9_from_85 : decode cX9_from 85 = .ok (.iadd, 1) := by decide +kernel
theorem dX9_from_86 : decode cX9_from 86 = .ok (.invokevirtual 318, 3) := by decide +kernel
theorem dX9_from_89 : decode cX9_from 89 = .ok (.ireturn, 1) := by decide +kernel
theorem dX9_from_90 : decode cX9_from 90 = .ok (.aload_n 0, 1) := by decide +kernel
theorem dX9_from_91 : decode cX9_from 91 = .ok (.iload_n 1, 1) := by decide +kernel
theorem dX9_from_92 : decode cX9_from 92 = .ok (.invokestatic 306, 3) := by decide +kernel
theorem dX9_from_95 : decode cX9_from 95 = .ok (.iload_n 2, 1) := by decide +kernel
theorem dX9_from_96 : decode cX9_from 96 = .ok (.invokevirtual 318, 3) := by decide +kernel
theorem dX9_from_99 : decode cX9_from 99 = .ok (.ireturn, 1) := by decide +kernel
set_option maxRecDepth 20000 in
theorem ggX9_tells_X9_ran : GoodIn wsX9_tells wsX9_ran := goodIn_r _ [5, 6, 7, 36, 37, 38, 39, 40, 41, 42, 43, 44, 45, 46, 47, 48, 49, 50, 51, 52, 53, 54, 55, 56, 57, 58] (by decide +kernel) (by decide +kernel)
set_option maxRecDepth 20000 in
theorem gX9_tells_X9_ran : GoodIn wsX9_tells (wsV RX9 303 RX9 yX9_ran wsX9_ran) := goodIn_app (goodIn_of _ (by decide +kernel)) ggX9_tells_X9_ran
set_option maxRecDepth 20000 in
theorem ggX9_tells_X9_own : GoodIn wsX9_tells wsX9_own := goodIn_r _ [11, 12, 13, 14, 15, 4, 16, 17, 36, 37, 38, 39, 40, 41, 42, 43, 44, 45, 46, 47, 48, 49, 50, 51, 52, 53, 54, 55, 56, 57, 58] (by decide +kernel) (by decide +kernel)
set_option maxRecDepth 20000 in
theorem gX9_tells_X9_own : GoodIn wsX9_tells (wsV RX9 312 RX9 yX9_own wsX9_own) := goodIn_app (goodIn_of _ (by decide +kernel)) ggX9_tells_X9_own
set_option maxRecDepth 20000 in
theorem ggX9_tells_X9_whom : GoodIn wsX9_tells wsX9_whom := goodIn_r _ [21, 12, 1, 2, 3, 4, 5, 6, 7, 8, 9, 10, 11, 13, 14, 15, 16, 17, 22, 23, 24, 25, 26, 27, 28, 18, 19, 20, 29, 30, 31, 32, 36, 37, 38, 39, 40, 41, 42, 43, 44, 45, 46, 47, 48, 49, 50, 51, 52, 53, 54, 55, 56, 57, 58] (by decide +kernel) (by decide +kernel)
set_option maxRecDepth 20000 in
theorem gX9_tells_X9_whom : GoodIn wsX9_tells (wsV RX9 315 RX9 yX9_whom wsX9_whom) := goodIn_app (goodIn_of _ (by decide +kernel)) ggX9_tells_X9_whom
set_option maxRecDepth 20000 in
theorem ggX9_tells_X9_from : GoodIn wsX9_tells wsX9_from := goodIn_r _ [32, 12, 1, 2, 3, 4, 5, 6, 7, 13, 14, 15, 16, 17, 26, 27, 28, 29, 30, 31, 36, 37, 38, 39, 40, 41, 42, 43, 44, 45, 46, 47, 48, 49, 50, 51, 52, 53, 54, 55, 56, 57, 58] (by decide +kernel) (by decide +kernel)
set_option maxRecDepth 20000 in
theorem gX9_tells_X9_from : GoodIn wsX9_tells (wsV RX9 318 RX9 yX9_from wsX9_from) := goodIn_app (goodIn_of _ (by decide +kernel)) ggX9_tells_X9_from
set_option maxRecDepth 20000 in
theorem ggX9_tells_X9_binds : GoodIn wsX9_tells wsX9_binds := goodIn_r _ [25, 12, 1, 2, 3, 4, 5, 6, 7, 26, 27, 28, 22, 23, 24, 13, 14, 15, 16, 17, 36, 37, 38, 39, 40, 41, 42, 43, 44, 45, 46, 47, 48, 49, 50, 51, 52, 53, 54, 55, 56, 57, 58] (by decide +kernel) (by decide +kernel)
set_option maxRecDepth 20000 in
theorem gX9_tells_X9_binds : GoodIn wsX9_tells (wsV RX9 309 RX9 yX9_binds wsX9_binds) := goodIn_app (goodIn_of _ (by decide +kernel)) ggX9_tells_X9_binds
set_option maxRecDepth 20000 in
theorem ggX9_tells_X9_above : GoodIn wsX9_tells wsX9_above := goodIn_r _ [28] (by decide +kernel) (by decide +kernel)
set_option maxRecDepth 20000 in
theorem gX9_tells_X9_above : GoodIn wsX9_tells (va_wsS RX9 306 yX9_above wsX9_above) := goodIn_app (goodIn_of _ (by decide +kernel)) ggX9_tells_X9_above
set_option maxRecDepth 20000 in
theorem ggX9_tells_X9_tells : GoodIn wsX9_tells wsX9_tells := goodIn_r _ [0, 1, 2, 3, 4, 5, 6, 7, 8, 9, 10, 11, 12, 13, 14, 15, 16, 17, 18, 19, 20, 21, 22, 23, 24, 25, 26, 27, 28, 29, 30, 31, 32, 33, 34, 35, 36, 37, 38, 39, 40, 41, 42, 43, 44, 45, 46, 47, 48, 49, 50, 51, 52, 53, 54, 55, 56, 57, 58] (by decide +kernel) (by decide +kernel)
set_option maxRecDepth 20000 in
theorem gX9_tells_X9_tells : GoodIn wsX9_tells (wsV RX9 321 RX9 yX9_tells wsX9_tells) := goodIn_app (goodIn_of _ (by decide +kernel)) ggX9_tells_X9_tells
theorem dX9_tells_0 : decode cX9_tells 0 = .ok (.iload_n 1, 1) := by decide +kernel
theorem dX9_tells_1 : decode cX9_tells 1 = .ok (.lookupswitch 110 #[(0, 35), (4, 63), (6, 91)], 35) := by decide +kernel
theorem dX9_tells_36 : decode cX9_tells 36 = .ok (.aload_n 0, 1) := by decide +kernel
theorem dX9_tells_37 : decode cX9_tells 37 = .ok (.bipush 13, 2) := by decide +kernel
theorem dX9_tells_39 : decode cX9_tells 39 = .ok (.invokevirtual 303, 3) := by decide +kernel
theorem dX9_tells_42 : decode cX9_tells 42 = .ok (.aload_n 0, 1) := by decide +kernel
theorem dX9_tells_43 : decode cX9_tells 43 = .ok (.aload_n 0, 1) := by decide +kernel
theorem dX9_tells_44 : decode cX9_tells 44 = .ok (.invokevirtual 312, 3) := by decide +kernel
theorem dX9_tells_47 : decode cX9_tells 47 = .ok (.iload_n 2, 1) := by decide +kernel
theorem dX9_tells_48 : decode cX9_tells 48 = .ok (.invokevirtual 315, 3) := by decide +kernel
theorem dX9_tells_51 : decode cX9_tells 51 = .ok (.istore_n 3, 1) := by decide +kernel
theorem dX9_tells_52 : decode cX9_tells 52 = .ok (.iload_n 3, 1) := by decide +kernel
theorem dX9_tells_53 : decode cX9_tells 53 = .ok (.aload_n 0, 1) := by decide +kernel
theorem dX9_tells_54 : decode cX9_tells 54 = .ok (.aload_n 0, 1) := by decide +kernel
theorem dX9_tells_55 : decode cX9_tells 55 = .ok (.invokevirtual 312, 3) := by decide +kernel
theorem dX9_tells_58 : decode cX9_tells 58 = .ok (.iload_n 2, 1) := by decide +kernel
theorem dX9_tells_59 : decode cX9_tells 59 = .ok (.invokevirtual 318, 3) := by decide +kernel
theorem dX9_tells_62 : decode cX9_tells 62 = .ok (.ixor, 1) := by decide +kernel
theorem dX9_tells_63 : decode cX9_tells 63 = .ok (.ireturn, 1) := by decide +kernel
theorem dX9_tells_64 : decode cX9_tells 64 = .ok (.aload_n 0, 1) := by decide +kernel
theorem dX9_tells_65 : decode cX9_tells 65 = .ok (.bipush 50, 2) := by decide +kernel
theorem dX9_tells_67 : decode cX9_tells 67 = .ok (.invokevirtual 303, 3) := by decide +kernel
theorem dX9_tells_70 : decode cX9_tells 70 = .ok (.aload_n 0, 1) := by decide +kernel
theorem dX9_tells_71 : decode cX9_tells 71 = .ok (.aload_n 0, 1) := by decide +kernel
theorem dX9_tells_72 : decode cX9_tells 72 = .ok (.invokevirtual 312, 3) := by decide +kernel
theorem dX9_tells_75 : decode cX9_tells 75 = .ok (.iconst 2, 1) := by decide +kernel
theorem dX9_tells_76 : decode cX9_tells 76 = .ok (.invokevirtual 309, 3) := by decide +kernel
theorem dX9_tells_79 : decode cX9_tells 79 = .ok (.istore_n 3, 1) := by decide +kernel
theorem dX9_tells_80 : decode cX9_tells 80 = .ok (.iload_n 3, 1) := by decide +kernel
theorem dX9_tells_81 : decode cX9_tells 81 = .ok (.aload_n 0, 1) := by decide +kernel
theorem dX9_tells_82 : decode cX9_tells 82 = .ok (.iconst 4, 1) := by decide +kernel
theorem dX9_tells_83 : decode cX9_tells 83 = .ok (.invokestatic 306, 3) := by decide +kernel
theorem dX9_tells_86 : decode cX9_tells 86 = .ok (.iload_n 2, 1) := by decide +kernel
theorem dX9_tells_87 : decode cX9_tells 87 = .ok (.invokevirtual 321, 3) := by decide +kernel
theorem dX9_tells_90 : decode cX9_tells 90 = .ok (.isub, 1) := by decide +kernel
theorem dX9_tells_91 : decode cX9_tells 91 = .ok (.ireturn, 1) := by decide +kernel
theorem dX9_tells_92 : decode cX9_tells 92 = .ok (.aload_n 0, 1) := by decide +kernel
theorem dX9_tells_93 : decode cX9_tells 93 = .ok (.bipush 71, 2) := by decide +kernel
theorem dX9_tells_95 : decode cX9_tells 95 = .ok (.invokevirtual 303, 3) := by decide +kernel
theorem dX9_tells_98 : decode cX9_tells 98 = .ok (.aload_n 0, 1) := by decide +kernel
theorem dX9_tells_99 : decode cX9_tells 99 = .ok (.bipush 6, 2) := by decide +kernel
theorem dX9_tells_101 : decode cX9_tells 101 = .ok (.invokestatic 306, 3) := by decide +kernel
theorem dX9_tells_104 : decode cX9_tells 104 = .ok (.iload_n 2, 1) := by decide +kernel
theorem dX9_tells_105 : decode cX9_tells 105 = .ok (.invokevirtual 321, 3) := by decide +kernel
theorem dX9_tells_108 : decode cX9_tells 108 = .ok (.iconst 5, 1) := by decide +kernel
theorem dX9_tells_109 : decode cX9_tells 109 = .ok (.imul, 1) := by decide +kernel
theorem dX9_tells_110 : decode cX9_tells 110 = .ok (.ireturn, 1) := by decide +kernel
theorem dX9_tells_111 : decode cX9_tells 111 = .ok (.aload_n 0, 1) := by decide +kernel
theorem dX9_tells_112 : decode cX9_tells 112 = .ok (.iload_n 1, 1) := by decide +kernel
theorem dX9_tells_113 : decode cX9_tells 113 = .ok (.invokestatic 306, 3) := by decide +kernel
theorem dX9_tells_116 : decode cX9_tells 116 = .ok (.iload_n 2, 1) := by decide +kernel
theorem dX9_tells_117 : decode cX9_tells 117 = .ok (.invokevirtual 321, 3) := by decide +kernel
theorem dX9_tells_120 : decode cX9_tells 120 = .ok (.ireturn, 1) := by decide +kernel
set_option maxRecDepth 20000 in
theorem ggX9_voice_X9_isWord : GoodIn wsX9_voice wsX9_isWord := goodIn_r _ [8, 9, 10, 11, 7, 12, 51, 52, 53, 54, 55, 56, 57, 58, 59, 60, 61, 62, 63, 64, 65, 66, 67, 68, 69, 70, 71, 72, 73] (by decide +kernel) (by decide +kernel)
set_option maxRecDepth 20000 in
theorem gX9_voice_X9_isWord : GoodIn wsX9_voice (wsV RX9 129 RX9 yX9_isWord wsX9_isWord) := goodIn_app (goodIn_of _ (by decide +kernel)) ggX9_voice_X9_isWord
set_option maxRecDepth 20000 in
theorem ggX9_voice_X9_in : GoodIn wsX9_voice wsX9_in := goodIn_r _ [12] (by decide +kernel) (by decide +kernel)
set_option maxRecDepth 20000 in
theorem gX9_voice_X9_in : GoodIn wsX9_voice (va_wsS RX9 54 yX9_in wsX9_in) := goodIn_app (goodIn_of _ (by decide +kernel)) ggX9_voice_X9_in
set_option maxRecDepth 20000 in
theorem ggX9_voice_X9_finds : GoodIn wsX9_voice wsX9_finds := goodIn_r _ [16, 17, 18, 51, 52, 53, 54, 55, 56, 57, 58, 59, 60, 61, 62, 63, 64, 65, 66, 67, 68, 69, 70, 71, 72, 73] (by decide +kernel) (by decide +kernel)
set_option maxRecDepth 20000 in
theorem gX9_voice_X9_finds : GoodIn wsX9_voice (wsV RX9 68 RX9 yX9_finds wsX9_finds) := goodIn_app (goodIn_of _ (by decide +kernel)) ggX9_voice_X9_finds
set_option maxRecDepth 20000 in
theorem ggX9_voice_X9_own : GoodIn wsX9_voice wsX9_own := goodIn_r _ [22, 3, 23, 24, 25, 7, 26, 9, 51, 52, 53, 54, 55, 56, 57, 58, 59, 60, 61, 62, 63, 64, 65, 66, 67, 68, 69, 70, 71, 72, 73] (by decide +kernel) (by decide +kernel)
set_option maxRecDepth 20000 in
theorem gX9_voice_X9_own : GoodIn wsX9_voice (wsV RX9 312 RX9 yX9_own wsX9_own) := goodIn_app (goodIn_of _ (by decide +kernel)) ggX9_voice_X9_own
set_option maxRecDepth 20000 in
theorem ggX9_voice_X9_binds : GoodIn wsX9_voice wsX9_binds := goodIn_r _ [30, 3, 31, 32, 33, 7, 34, 2, 35, 36, 37, 38, 27, 28, 29, 23, 24, 25, 26, 9, 51, 52, 53, 54, 55, 56, 57, 58, 59, 60, 61, 62, 63, 64, 65, 66, 67, 68, 69, 70, 71, 72, 73] (by decide +kernel) (by decide +kernel)
set_option maxRecDepth 20000 in
theorem gX9_voice_X9_binds : GoodIn wsX9_voice (wsV RX9 309 RX9 yX9_binds wsX9_binds) := goodIn_app (goodIn_of _ (by decide +kernel)) ggX9_voice_X9_binds
set_option maxRecDepth 20000 in
theorem ggX9_voice_X9_whom : GoodIn wsX9_voice wsX9_whom := goodIn_r _ [42, 3, 31, 32, 33, 7, 34, 2, 35, 19, 20, 21, 22, 23, 24, 25, 26, 9, 27, 28, 29, 30, 36, 37, 38, 39, 40, 41, 43, 44, 45, 46, 51, 52, 53, 54, 55, 56, 57, 58, 59, 60, 61, 62, 63, 64, 65, 66, 67, 68, 69, 70, 71, 72, 73] (by decide +kernel) (by decide +kernel)
set_option maxRecDepth 20000 in
theorem gX9_voice_X9_whom : GoodIn wsX9_voice (wsV RX9 315 RX9 yX9_whom wsX9_whom) := goodIn_app (goodIn_of _ (by decide +kernel)) ggX9_voice_X9_whom
set_option maxRecDepth 20000 in
theorem ggX9_voice_X9_from : GoodIn wsX9_voice wsX9_from := goodIn_r _ [46, 3, 31, 32, 33, 7, 34, 2, 35, 23, 24, 25, 26, 9, 36, 37, 38, 43, 44, 45, 51, 52, 53, 54, 55, 56, 57, 58, 59, 60, 61, 62, 63, 64, 65, 66, 67, 68, 69, 70, 71, 72, 73] (by decide +kernel) (by decide +kernel)
set_option maxRecDepth 20000 in
theorem gX9_voice_X9_from : GoodIn wsX9_voice (wsV RX9 318 RX9 yX9_from wsX9_from) := goodIn_app (goodIn_of _ (by decide +kernel)) ggX9_voice_X9_from
set_option maxRecDepth 20000 in
theorem ggX9_voice_X9_tells : GoodIn wsX9_voice wsX9_tells := goodIn_r _ [50, 31, 32, 33, 7, 34, 2, 35, 19, 20, 21, 22, 3, 23, 24, 25, 26, 9, 39, 40, 41, 42, 27, 28, 29, 30, 36, 37, 38, 43, 44, 45, 46, 47, 48, 49, 51, 52, 53, 54, 55, 56, 57, 58, 59, 60, 61, 62, 63, 64, 65, 66, 67, 68, 69, 70, 71, 72, 73] (by decide +kernel) (by decide +kernel)
set_option maxRecDepth 20000 in
theorem gX9_voice_X9_tells : GoodIn wsX9_voice (wsV RX9 321 RX9 yX9_tells wsX9_tells) := goodIn_app (goodIn_of _ (by decide +kernel)) ggX9_voice_X9_tells
theorem dX9_voice_0 : decode cX9_voice 0 = .ok (.aload_n 0, 1) := by decide +kernel
theorem dX9_voice_1 : decode cX9_voice 1 = .ok (.iload_n 1, 1) := by decide +kernel
theorem dX9_voice_2 : decode cX9_voice 2 = .ok (.invokevirtual 129, 3) := by decide +kernel
theorem dX9_voice_5 : decode cX9_voice 5 = .ok (.ifCond .eq 15, 3) := by decide +kernel
theorem dX9_voice_8 : decode cX9_voice 8 = .ok (.iload_n 2, 1) := by decide +kernel
theorem dX9_voice_9 : decode cX9_voice 9 = .ok (.i2l, 1) := by decide +kernel
theorem dX9_voice_10 : decode cX9_voice 10 = .ok (.lconst 0, 1) := by decide +kernel
theorem dX9_voice_11 : decode cX9_voice 11 = .ok (.ldc2_w 66, 3) := by decide +kernel
theorem dX9_voice_14 : decode cX9_voice 14 = .ok (.invokestatic 54, 3) := by decide +kernel
theorem dX9_voice_17 : decode cX9_voice 17 = .ok (.ifCond .ne 9, 3) := by decide +kernel
theorem dX9_voice_20 : decode cX9_voice 20 = .ok (.aload_n 0, 1) := by decide +kernel
theorem dX9_voice_21 : decode cX9_voice 21 = .ok (.iconst 1, 1) := by decide +kernel
theorem dX9_voice_22 : decode cX9_voice 22 = .ok (.invokevirtual 68, 3) := by decide +kernel
theorem dX9_voice_25 : decode cX9_voice 25 = .ok (.ireturn, 1) := by decide +kernel
theorem dX9_voice_26 : decode cX9_voice 26 = .ok (.aload_n 0, 1) := by decide +kernel
theorem dX9_voice_27 : decode cX9_voice 27 = .ok (.iconst 0, 1) := by decide +kernel
theorem dX9_voice_28 : decode cX9_voice 28 = .ok (.putfield 297, 3) := by decide +kernel
theorem dX9_voice_31 : decode cX9_voice 31 = .ok (.aload_n 0, 1) := by decide +kernel
theorem dX9_voice_32 : decode cX9_voice 32 = .ok (.iload_n 1, 1) := by decide +kernel
theorem dX9_voice_33 : decode cX9_voice 33 = .ok (.putfield 300, 3) := by decide +kernel
theorem dX9_voice_36 : decode cX9_voice 36 = .ok (.aload_n 0, 1) := by decide +kernel
theorem dX9_voice_37 : decode cX9_voice 37 = .ok (.invokevirtual 312, 3) := by decide +kernel
theorem dX9_voice_40 : decode cX9_voice 40 = .ok (.istore 4, 2) := by decide +kernel
theorem dX9_voice_42 : decode cX9_voice 42 = .ok (.iload_n 2, 1) := by decide +kernel
theorem dX9_voice_43 : decode cX9_voice 43 = .ok (.ifCond .ne 13, 3) := by decide +kernel
theorem dX9_voice_46 : decode cX9_voice 46 = .ok (.aload_n 0, 1) := by decide +kernel
theorem dX9_voice_47 : decode cX9_voice 47 = .ok (.iload 4, 2) := by decide +kernel
theorem dX9_voice_49 : decode cX9_voice 49 = .ok (.iload_n 3, 1) := by decide +kernel
theorem dX9_voice_50 : decode cX9_voice 50 = .ok (.invokevirtual 309, 3) := by decide +kernel
theorem dX9_voice_53 : decode cX9_voice 53 = .ok (.goto 40, 3) := by decide +kernel
theorem dX9_voice_56 : decode cX9_voice 56 = .ok (.iload_n 2, 1) := by decide +kernel
theorem dX9_voice_57 : decode cX9_voice 57 = .ok (.iconst 1, 1) := by decide +kernel
theorem dX9_voice_58 : decode cX9_voice 58 = .ok (.if_icmp .ne 13, 3) := by decide +kernel
theorem dX9_voice_61 : decode cX9_voice 61 = .ok (.aload_n 0, 1) := by decide +kernel
theorem dX9_voice_62 : decode cX9_voice 62 = .ok (.iload 4, 2) := by decide +kernel
theorem dX9_voice_64 : decode cX9_voice 64 = .ok (.iload_n 3, 1) := by decide +kernel
theorem dX9_voice_65 : decode cX9_voice 65 = .ok (.invokevirtual 315, 3) := by decide +kernel
theorem dX9_voice_68 : decode cX9_voice 68 = .ok (.goto 25, 3) := by decide +kernel
theorem dX9_voice_71 : decode cX9_voice 71 = .ok (.iload_n 2, 1) := by decide +kernel
theorem dX9_voice_72 : decode cX9_voice 72 = .ok (.iconst 2, 1) := by decide +kernel
theorem dX9_voice_73 : decode cX9_voice 73 = .ok (.if_icmp .ne 13, 3) := by decide +kernel
theorem dX9_voice_76 : decode cX9_voice 76 = .ok (.aload_n 0, 1) := by decide +kernel
theorem dX9_voice_77 : decode cX9_voice 77 = .ok (.iload 4, 2) := by decide +kernel
theorem dX9_voice_79 : decode cX9_voice 79 = .ok (.iload_n 3, 1) := by decide +kernel
theorem dX9_voice_80 : decode cX9_voice 80 = .ok (.invokevirtual 318, 3) := by decide +kernel
theorem dX9_voice_83 : decode cX9_voice 83 = .ok (.goto 10, 3) := by decide +kernel
theorem dX9_voice_86 : decode cX9_voice 86 = .ok (.aload_n 0, 1) := by decide +kernel
theorem dX9_voice_87 : decode cX9_voice 87 = .ok (.iload 4, 2) := by decide +kernel
theorem dX9_voice_89 : decode cX9_voice 89 = .ok (.iload_n 3, 1) := by decide +kernel
theorem dX9_voice_90 : decode cX9_voice 90 = .ok (.invokevirtual 321, 3) := by decide +kernel
theorem dX9_voice_93 : decode cX9_voice 93 = .ok (.ireturn, 1) := by decide +kernel
set_option maxRecDepth 20000 in
theorem ggX9_trace_X9_in : GoodIn wsX9_trace wsX9_in := goodIn_r _ [6] (by decide +kernel) (by decide +kernel)
set_option maxRecDepth 20000 in
theorem gX9_trace_X9_in : GoodIn wsX9_trace (va_wsS RX9 54 yX9_in wsX9_in) := goodIn_app (goodIn_of _ (by decide +kernel)) ggX9_trace_X9_in
set_option maxRecDepth 20000 in
theorem ggX9_trace_X9_finds : GoodIn wsX9_trace wsX9_finds := goodIn_r _ [10, 11, 12, 13, 14, 15, 16, 17, 18, 19, 20, 21, 22, 23, 24, 25, 26, 27, 28, 29, 30, 31, 32, 33, 34, 35] (by decide +kernel) (by decide +kernel)
set_option maxRecDepth 20000 in
theorem gX9_trace_X9_finds : GoodIn wsX9_trace (wsV RX9 68 RX9 yX9_finds wsX9_finds) := goodIn_app (goodIn_of _ (by decide +kernel)) ggX9_trace_X9_finds
theorem dX9_trace_0 : decode cX9_trace 0 = .ok (.iload_n 1, 1) := by decide +kernel
theorem dX9_trace_1 : decode cX9_trace 1 = .ok (.i2l, 1) := by decide +kernel
theorem dX9_trace_2 : decode cX9_trace 2 = .ok (.lconst 0, 1) := by decide +kernel
theorem dX9_trace_3 : decode cX9_trace 3 = .ok (.aload_n 0, 1) := by decide +kernel
theorem dX9_trace_4 : decode cX9_trace 4 = .ok (.getfield 297, 3) := by decide +kernel
theorem dX9_trace_7 : decode cX9_trace 7 = .ok (.iconst 1, 1) := by decide +kernel
theorem dX9_trace_8 : decode cX9_trace 8 = .ok (.isub, 1) := by decide +kernel
theorem dX9_trace_9 : decode cX9_trace 9 = .ok (.i2l, 1) := by decide +kernel
theorem dX9_trace_10 : decode cX9_trace 10 = .ok (.invokestatic 54, 3) := by decide +kernel
theorem dX9_trace_13 : decode cX9_trace 13 = .ok (.ifCond .eq 12, 3) := by decide +kernel
theorem dX9_trace_16 : decode cX9_trace 16 = .ok (.aload_n 0, 1) := by decide +kernel
theorem dX9_trace_17 : decode cX9_trace 17 = .ok (.getfield 38, 3) := by decide +kernel
theorem dX9_trace_20 : decode cX9_trace 20 = .ok (.iload_n 1, 1) := by decide +kernel
theorem dX9_trace_21 : decode cX9_trace 21 = .ok (.iaload, 1) := by decide +kernel
theorem dX9_trace_22 : decode cX9_trace 22 = .ok (.goto 8, 3) := by decide +kernel
theorem dX9_trace_25 : decode cX9_trace 25 = .ok (.aload_n 0, 1) := by decide +kernel
theorem dX9_trace_26 : decode cX9_trace 26 = .ok (.iconst 2, 1) := by decide +kernel
theorem dX9_trace_27 : decode cX9_trace 27 = .ok (.invokevirtual 68, 3) := by decide +kernel
theorem dX9_trace_30 : decode cX9_trace 30 = .ok (.ireturn, 1) := by decide +kernel
set_option maxRecDepth 20000 in
theorem ggX9_isSheet_X9_in : GoodIn wsX9_isSheet wsX9_in := goodIn_r _ [5] (by decide +kernel) (by decide +kernel)
set_option maxRecDepth 20000 in
theorem gX9_isSheet_X9_in : GoodIn wsX9_isSheet (va_wsS RX9 54 yX9_in wsX9_in) := goodIn_app (goodIn_of _ (by decide +kernel)) ggX9_isSheet_X9_in
theorem dX9_isSheet_0 : decode cX9_isSheet 0 = .ok (.iload_n 0, 1) := by decide +kernel
theorem dX9_isSheet_1 : decode cX9_isSheet 1 = .ok (.i2l, 1) := by decide +kernel
theorem dX9_isSheet_2 : decode cX9_isSheet 2 = .ok (.lconst 0, 1) := by decide +kernel
theorem dX9_isSheet_3 : decode cX9_isSheet 3 = .ok (.ldc2_w 66, 3) := by decide +kernel
theorem dX9_isSheet_6 : decode cX9_isSheet 6 = .ok (.invokestatic 54, 3) := by decide +kernel
theorem dX9_isSheet_9 : decode cX9_isSheet 9 = .ok (.ireturn, 1) := by decide +kernel
set_option maxRecDepth 20000 in
theorem ggX9_sheet_X9_isSheet : GoodIn wsX9_sheet wsX9_isSheet := goodIn_r _ [7, 8, 9, 10, 6, 11] (by decide +kernel) (by decide +kernel)
set_option maxRecDepth 20000 in
theorem gX9_sheet_X9_isSheet : GoodIn wsX9_sheet (va_wsS RX9 137 yX9_isSheet wsX9_isSheet) := goodIn_app (goodIn_of _ (by decide +kernel)) ggX9_sheet_X9_isSheet
set_option maxRecDepth 20000 in
theorem ggX9_sheet_X9_finds : GoodIn wsX9_sheet wsX9_finds := goodIn_r _ [15, 16, 17, 18, 19, 20, 21, 22, 23, 24, 25, 26, 27, 28, 29, 30, 31, 32, 33, 34, 35, 36, 37, 38, 39, 40] (by decide +kernel) (by decide +kernel)
set_option maxRecDepth 20000 in
theorem gX9_sheet_X9_finds : GoodIn wsX9_sheet (wsV RX9 68 RX9 yX9_finds wsX9_finds) := goodIn_app (goodIn_of _ (by decide +kernel)) ggX9_sheet_X9_finds
theorem dX9_sheet_0 : decode cX9_sheet 0 = .ok (.iload_n 1, 1) := by decide +kernel
theorem dX9_sheet_1 : decode cX9_sheet 1 = .ok (.invokestatic 137, 3) := by decide +kernel
theorem dX9_sheet_4 : decode cX9_sheet 4 = .ok (.ifCond .eq 25, 3) := by decide +kernel
theorem dX9_sheet_7 : decode cX9_sheet 7 = .ok (.iload_n 2, 1) := by decide +kernel
theorem dX9_sheet_8 : decode cX9_sheet 8 = .ok (.ifCond .eq 27, 3) := by decide +kernel
theorem dX9_sheet_11 : decode cX9_sheet 11 = .ok (.iload_n 2, 1) := by decide +kernel
theorem dX9_sheet_12 : decode cX9_sheet 12 = .ok (.bipush 8, 2) := by decide +kernel
theorem dX9_sheet_14 : decode cX9_sheet 14 = .ok (.if_icmp .eq 21, 3) := by decide +kernel
theorem dX9_sheet_17 : decode cX9_sheet 17 = .ok (.iload_n 2, 1) := by decide +kernel
theorem dX9_sheet_18 : decode cX9_sheet 18 = .ok (.bipush 16, 2) := by decide +kernel
theorem dX9_sheet_20 : decode cX9_sheet 20 = .ok (.if_icmp .eq 15, 3) := by decide +kernel
theorem dX9_sheet_23 : decode cX9_sheet 23 = .ok (.iload_n 2, 1) := by decide +kernel
theorem dX9_sheet_24 : decode cX9_sheet 24 = .ok (.bipush 32, 2) := by decide +kernel
theorem dX9_sheet_26 : decode cX9_sheet 26 = .ok (.if_icmp .eq 9, 3) := by decide +kernel
theorem dX9_sheet_29 : decode cX9_sheet 29 = .ok (.aload_n 0, 1) := by decide +kernel
theorem dX9_sheet_30 : decode cX9_sheet 30 = .ok (.iconst 1, 1) := by decide +kernel
theorem dX9_sheet_31 : decode cX9_sheet 31 = .ok (.invokevirtual 68, 3) := by decide +kernel
theorem dX9_sheet_34 : decode cX9_sheet 34 = .ok (.ireturn, 1) := by decide +kernel
theorem dX9_sheet_35 : decode cX9_sheet 35 = .ok (.iload_n 2, 1) := by decide +kernel
theorem dX9_sheet_36 : decode cX9_sheet 36 = .ok (.ifCond .eq 13, 3) := by decide +kernel
theorem dX9_sheet_39 : decode cX9_sheet 39 = .ok (.iload_n 3, 1) := by decide +kernel
theorem dX9_sheet_40 : decode cX9_sheet 40 = .ok (.ifCond .ge 9, 3) := by decide +kernel
theorem dX9_sheet_43 : decode cX9_sheet 43 = .ok (.aload_n 0, 1) := by decide +kernel
theorem dX9_sheet_44 : decode cX9_sheet 44 = .ok (.iconst 3, 1) := by decide +kernel
theorem dX9_sheet_45 : decode cX9_sheet 45 = .ok (.invokevirtual 68, 3) := by decide +kernel
theorem dX9_sheet_48 : decode cX9_sheet 48 = .ok (.ireturn, 1) := by decide +kernel
theorem dX9_sheet_49 : decode cX9_sheet 49 = .ok (.iload_n 2, 1) := by decide +kernel
theorem dX9_sheet_50 : decode cX9_sheet 50 = .ok (.ifCond .eq 15, 3) := by decide +kernel
theorem dX9_sheet_53 : decode cX9_sheet 53 = .ok (.iload_n 3, 1) := by decide +kernel
theorem dX9_sheet_54 : decode cX9_sheet 54 = .ok (.bipush 40, 2) := by decide +kernel
theorem dX9_sheet_56 : decode cX9_sheet 56 = .ok (.if_icmp .le 9, 3) := by decide +kernel
theorem dX9_sheet_59 : decode cX9_sheet 59 = .ok (.aload_n 0, 1) := by decide +kernel
theorem dX9_sheet_60 : decode cX9_sheet 60 = .ok (.iconst 1, 1) := by decide +kernel
theorem dX9_sheet_61 : decode cX9_sheet 61 = .ok (.invokevirtual 68, 3) := by decide +kernel
theorem dX9_sheet_64 : decode cX9_sheet 64 = .ok (.ireturn, 1) := by decide +kernel
theorem dX9_sheet_65 : decode cX9_sheet 65 = .ok (.aload_n 0, 1) := by decide +kernel
theorem dX9_sheet_66 : decode cX9_sheet 66 = .ok (.getfield 41, 3) := by decide +kernel
theorem dX9_sheet_69 : decode cX9_sheet 69 = .ok (.iload_n 1, 1) := by decide +kernel
theorem dX9_sheet_70 : decode cX9_sheet 70 = .ok (.iload_n 2, 1) := by decide +kernel
theorem dX9_sheet_71 : decode cX9_sheet 71 = .ok (.iastore, 1) := by decide +kernel
theorem dX9_sheet_72 : decode cX9_sheet 72 = .ok (.aload_n 0, 1) := by decide +kernel
theorem dX9_sheet_73 : decode cX9_sheet 73 = .ok (.getfield 44, 3) := by decide +kernel
theorem dX9_sheet_76 : decode cX9_sheet 76 = .ok (.iload_n 1, 1) := by decide +kernel
theorem dX9_sheet_77 : decode cX9_sheet 77 = .ok (.iload_n 2, 1) := by decide +kernel
theorem dX9_sheet_78 : decode cX9_sheet 78 = .ok (.ifCond .ne 7, 3) := by decide +kernel
theorem dX9_sheet_81 : decode cX9_sheet 81 = .ok (.iconst 0, 1) := by decide +kernel
theorem dX9_sheet_82 : decode cX9_sheet 82 = .ok (.goto 4, 3) := by decide +kernel
theorem dX9_sheet_85 : decode cX9_sheet 85 = .ok (.iload_n 3, 1) := by decide +kernel
theorem dX9_sheet_86 : decode cX9_sheet 86 = .ok (.iastore, 1) := by decide +kernel
theorem dX9_sheet_87 : decode cX9_sheet 87 = .ok (.iconst 0, 1) := by decide +kernel
theorem dX9_sheet_88 : decode cX9_sheet 88 = .ok (.istore 4, 2) := by decide +kernel
theorem dX9_sheet_90 : decode cX9_sheet 90 = .ok (.iload 4, 2) := by decide +kernel
theorem dX9_sheet_92 : decode cX9_sheet 92 = .ok (.bipush 40, 2) := by decide +kernel
theorem dX9_sheet_94 : decode cX9_sheet 94 = .ok (.if_icmp .ge 22, 3) := by decide +kernel
theorem dX9_sheet_97 : decode cX9_sheet 97 = .ok (.aload_n 0, 1) := by decide +kernel
theorem dX9_sheet_98 : decode cX9_sheet 98 = .ok (.getfield 47, 3) := by decide +kernel
theorem dX9_sheet_101 : decode cX9_sheet 101 = .ok (.bipush 40, 2) := by decide +kernel
theorem dX9_sheet_103 : decode cX9_sheet 103 = .ok (.iload_n 1, 1) := by decide +kernel
theorem dX9_sheet_104 : decode cX9_sheet 104 = .ok (.imul, 1) := by decide +kernel
theorem dX9_sheet_105 : decode cX9_sheet 105 = .ok (.iload 4, 2) := by decide +kernel
theorem dX9_sheet_107 : decode cX9_sheet 107 = .ok (.iadd, 1) := by decide +kernel
theorem dX9_sheet_108 : decode cX9_sheet 108 = .ok (.iconst 0, 1) := by decide +kernel
theorem dX9_sheet_109 : decode cX9_sheet 109 = .ok (.iastore, 1) := by decide +kernel
theorem dX9_sheet_110 : decode cX9_sheet 110 = .ok (.iinc 4 1, 3) := by decide +kernel
theorem dX9_sheet_113 : decode cX9_sheet 113 = .ok (.goto (-23), 3) := by decide +kernel
theorem dX9_sheet_116 : decode cX9_sheet 116 = .ok (.iconst 1, 1) := by decide +kernel
theorem dX9_sheet_117 : decode cX9_sheet 117 = .ok (.ireturn, 1) := by decide +kernel
set_option maxRecDepth 20000 in
theorem ggX9_put_X9_isSheet : GoodIn wsX9_put wsX9_isSheet := goodIn_r _ [7, 8, 9, 10, 6, 11] (by decide +kernel) (by decide +kernel)
set_option maxRecDepth 20000 in
theorem gX9_put_X9_isSheet : GoodIn wsX9_put (va_wsS RX9 137 yX9_isSheet wsX9_isSheet) := goodIn_app (goodIn_of _ (by decide +kernel)) ggX9_put_X9_isSheet
set_option maxRecDepth 20000 in
theorem ggX9_put_X9_finds : GoodIn wsX9_put wsX9_finds := goodIn_r _ [15, 16, 17, 18, 19, 20, 21, 22, 23, 24, 25, 26, 27, 28, 29, 30, 31, 32, 33, 34, 35, 36, 37, 38, 39, 40] (by decide +kernel) (by decide +kernel)
set_option maxRecDepth 20000 in
theorem gX9_put_X9_finds : GoodIn wsX9_put (wsV RX9 68 RX9 yX9_finds wsX9_finds) := goodIn_app (goodIn_of _ (by decide +kernel)) ggX9_put_X9_finds
set_option maxRecDepth 20000 in
theorem ggX9_put_X9_in : GoodIn wsX9_put wsX9_in := goodIn_r _ [11] (by decide +kernel) (by decide +kernel)
set_option maxRecDepth 20000 in
theorem gX9_put_X9_in : GoodIn wsX9_put (va_wsS RX9 54 yX9_in wsX9_in) := goodIn_app (goodIn_of _ (by decide +kernel)) ggX9_put_X9_in
theorem dX9_put_0 : decode cX9_put 0 = .ok (.iload_n 1, 1) := by decide +kernel
theorem dX9_put_1 : decode cX9_put 1 = .ok (.invokestatic 137, 3) := by decide +kernel
theorem dX9_put_4 : decode cX9_put 4 = .ok (.ifCond .ne 9, 3) := by decide +kernel
theorem dX9_put_7 : decode cX9_put 7 = .ok (.aload_n 0, 1) := by decide +kernel
theorem dX9_put_8 : decode cX9_put 8 = .ok (.iconst 1, 1) := by decide +kernel
theorem dX9_put_9 : decode cX9_put 9 = .ok (.invokevirtual 68, 3) := by decide +kernel
theorem dX9_put_12 : decode cX9_put 12 = .ok (.ireturn, 1) := by decide +kernel
theorem dX9_put_13 : decode cX9_put 13 = .ok (.aload_n 0, 1) := by decide +kernel
theorem dX9_put_14 : decode cX9_put 14 = .ok (.getfield 41, 3) := by decide +kernel
theorem dX9_put_17 : decode cX9_put 17 = .ok (.iload_n 1, 1) := by decide +kernel
theorem dX9_put_18 : decode cX9_put 18 = .ok (.iaload, 1) := by decide +kernel
theorem dX9_put_19 : decode cX9_put 19 = .ok (.ifCond .ne 9, 3) := by decide +kernel
theorem dX9_put_22 : decode cX9_put 22 = .ok (.aload_n 0, 1) := by decide +kernel
theorem dX9_put_23 : decode cX9_put 23 = .ok (.iconst 2, 1) := by decide +kernel
theorem dX9_put_24 : decode cX9_put 24 = .ok (.invokevirtual 68, 3) := by decide +kernel
theorem dX9_put_27 : decode cX9_put 27 = .ok (.ireturn, 1) := by decide +kernel
theorem dX9_put_28 : decode cX9_put 28 = .ok (.iload_n 2, 1) := by decide +kernel
theorem dX9_put_29 : decode cX9_put 29 = .ok (.i2l, 1) := by decide +kernel
theorem dX9_put_30 : decode cX9_put 30 = .ok (.lconst 0, 1) := by decide +kernel
theorem dX9_put_31 : decode cX9_put 31 = .ok (.aload_n 0, 1) := by decide +kernel
theorem dX9_put_32 : decode cX9_put 32 = .ok (.getfield 44, 3) := by decide +kernel
theorem dX9_put_35 : decode cX9_put 35 = .ok (.iload_n 1, 1) := by decide +kernel
theorem dX9_put_36 : decode cX9_put 36 = .ok (.iaload, 1) := by decide +kernel
theorem dX9_put_37 : decode cX9_put 37 = .ok (.iconst 1, 1) := by decide +kernel
theorem dX9_put_38 : decode cX9_put 38 = .ok (.isub, 1) := by decide +kernel
theorem dX9_put_39 : decode cX9_put 39 = .ok (.i2l, 1) := by decide +kernel
theorem dX9_put_40 : decode cX9_put 40 = .ok (.invokestatic 54, 3) := by decide +kernel
theorem dX9_put_43 : decode cX9_put 43 = .ok (.ifCond .ne 9, 3) := by decide +kernel
theorem dX9_put_46 : decode cX9_put 46 = .ok (.aload_n 0, 1) := by decide +kernel
theorem dX9_put_47 : decode cX9_put 47 = .ok (.iconst 1, 1) := by decide +kernel
theorem dX9_put_48 : decode cX9_put 48 = .ok (.invokevirtual 68, 3) := by decide +kernel
theorem dX9_put_51 : decode cX9_put 51 = .ok (.ireturn, 1) := by decide +kernel
theorem dX9_put_52 : decode cX9_put 52 = .ok (.aload_n 0, 1) := by decide +kernel
theorem dX9_put_53 : decode cX9_put 53 = .ok (.getfield 47, 3) := by decide +kernel
theorem dX9_put_56 : decode cX9_put 56 = .ok (.bipush 40, 2) := by decide +kernel
theorem dX9_put_58 : decode cX9_put 58 = .ok (.iload_n 1, 1) := by decide +kernel
theorem dX9_put_59 : decode cX9_put 59 = .ok (.imul, 1) := by decide +kernel
theorem dX9_put_60 : decode cX9_put 60 = .ok (.iload_n 2, 1) := by decide +kernel
theorem dX9_put_61 : decode cX9_put 61 = .ok (.iadd, 1) := by decide +kernel
theorem dX9_put_62 : decode cX9_put 62 = .ok (.aload_n 0, 1) := by decide +kernel
theorem dX9_put_63 : decode cX9_put 63 = .ok (.getfield 41, 3) := by decide +kernel
theorem dX9_put_66 : decode cX9_put 66 = .ok (.iload_n 1, 1) := by decide +kernel
theorem dX9_put_67 : decode cX9_put 67 = .ok (.iaload, 1) := by decide +kernel
theorem dX9_put_68 : decode cX9_put 68 = .ok (.bipush 8, 2) := by decide +kernel
theorem dX9_put_70 : decode cX9_put 70 = .ok (.if_icmp .ne 8, 3) := by decide +kernel
theorem dX9_put_73 : decode cX9_put 73 = .ok (.iload_n 3, 1) := by decide +kernel
theorem dX9_put_74 : decode cX9_put 74 = .ok (.i2b, 1) := by decide +kernel
theorem dX9_put_75 : decode cX9_put 75 = .ok (.goto 20, 3) := by decide +kernel
theorem dX9_put_78 : decode cX9_put 78 = .ok (.aload_n 0, 1) := by decide +kernel
theorem dX9_put_79 : decode cX9_put 79 = .ok (.getfield 41, 3) := by decide +kernel
theorem dX9_put_82 : decode cX9_put 82 = .ok (.iload_n 1, 1) := by decide +kernel
theorem dX9_put_83 : decode cX9_put 83 = .ok (.iaload, 1) := by decide +kernel
theorem dX9_put_84 : decode cX9_put 84 = .ok (.bipush 16, 2) := by decide +kernel
theorem dX9_put_86 : decode cX9_put 86 = .ok (.if_icmp .ne 8, 3) := by decide +kernel
theorem dX9_put_89 : decode cX9_put 89 = .ok (.iload_n 3, 1) := by decide +kernel
theorem dX9_put_90 : decode cX9_put 90 = .ok (.i2s, 1) := by decide +kernel
theorem dX9_put_91 : decode cX9_put 91 = .ok (.goto 4, 3) := by decide +kernel
theorem dX9_put_94 : decode cX9_put 94 = .ok (.iload_n 3, 1) := by decide +kernel
theorem dX9_put_95 : decode cX9_put 95 = .ok (.iastore, 1) := by decide +kernel
theorem dX9_put_96 : decode cX9_put 96 = .ok (.iconst 1, 1) := by decide +kernel
theorem dX9_put_97 : decode cX9_put 97 = .ok (.ireturn, 1) := by decide +kernel
set_option maxRecDepth 20000 in
theorem ggX9_move_X9_isSheet : GoodIn wsX9_move wsX9_isSheet := goodIn_r _ [8, 9, 10, 11, 7, 12] (by decide +kernel) (by decide +kernel)
set_option maxRecDepth 20000 in
theorem gX9_move_X9_isSheet : GoodIn wsX9_move (va_wsS RX9 137 yX9_isSheet wsX9_isSheet) := goodIn_app (goodIn_of _ (by decide +kernel)) ggX9_move_X9_isSheet
set_option maxRecDepth 20000 in
theorem ggX9_move_X9_finds : GoodIn wsX9_move wsX9_finds := goodIn_r _ [16, 17, 18, 19, 20, 21, 22, 23, 24, 25, 26, 27, 28, 29, 30, 31, 32, 33, 34, 35, 36, 37, 38, 39, 40, 41] (by decide +kernel) (by decide +kernel)
set_option maxRecDepth 20000 in
theorem gX9_move_X9_finds : GoodIn wsX9_move (wsV RX9 68 RX9 yX9_finds wsX9_finds) := goodIn_app (goodIn_of _ (by decide +kernel)) ggX9_move_X9_finds
theorem dX9_move_0 : decode cX9_move 0 = .ok (.iload_n 1, 1) := by decide +kernel
theorem dX9_move_1 : decode cX9_move 1 = .ok (.invokestatic 137, 3) := by decide +kernel
theorem dX9_move_4 : decode cX9_move 4 = .ok (.ifCond .eq 10, 3) := by decide +kernel
theorem dX9_move_7 : decode cX9_move 7 = .ok (.iload_n 3, 1) := by decide +kernel
theorem dX9_move_8 : decode cX9_move 8 = .ok (.invokestatic 137, 3) := by decide +kernel
theorem dX9_move_11 : decode cX9_move 11 = .ok (.ifCond .ne 9, 3) := by decide +kernel
theorem dX9_move_14 : decode cX9_move 14 = .ok (.aload_n 0, 1) := by decide +kernel
theorem dX9_move_15 : decode cX9_move 15 = .ok (.iconst 1, 1) := by decide +kernel
theorem dX9_move_16 : decode cX9_move 16 = .ok (.invokevirtual 68, 3) := by decide +kernel
theorem dX9_move_19 : decode cX9_move 19 = .ok (.ireturn, 1) := by decide +kernel
theorem dX9_move_20 : decode cX9_move 20 = .ok (.aload_n 0, 1) := by decide +kernel
theorem dX9_move_21 : decode cX9_move 21 = .ok (.getfield 41, 3) := by decide +kernel
theorem dX9_move_24 : decode cX9_move 24 = .ok (.iload_n 1, 1) := by decide +kernel
theorem dX9_move_25 : decode cX9_move 25 = .ok (.iaload, 1) := by decide +kernel
theorem dX9_move_26 : decode cX9_move 26 = .ok (.ifCond .eq 12, 3) := by decide +kernel
theorem dX9_move_29 : decode cX9_move 29 = .ok (.aload_n 0, 1) := by decide +kernel
theorem dX9_move_30 : decode cX9_move 30 = .ok (.getfield 41, 3) := by decide +kernel
theorem dX9_move_33 : decode cX9_move 33 = .ok (.iload_n 3, 1) := by decide +kernel
theorem dX9_move_34 : decode cX9_move 34 = .ok (.iaload, 1) := by decide +kernel
theorem dX9_move_35 : decode cX9_move 35 = .ok (.ifCond .ne 9, 3) := by decide +kernel
theorem dX9_move_38 : decode cX9_move 38 = .ok (.aload_n 0, 1) := by decide +kernel
theorem dX9_move_39 : decode cX9_move 39 = .ok (.iconst 2, 1) := by decide +kernel
theorem dX9_move_40 : decode cX9_move 40 = .ok (.invokevirtual 68, 3) := by decide +kernel
theorem dX9_move_43 : decode cX9_move 43 = .ok (.ireturn, 1) := by decide +kernel
theorem dX9_move_44 : decode cX9_move 44 = .ok (.aload_n 0, 1) := by decide +kernel
theorem dX9_move_45 : decode cX9_move 45 = .ok (.getfield 41, 3) := by decide +kernel
theorem dX9_move_48 : decode cX9_move 48 = .ok (.iload_n 1, 1) := by decide +kernel
theorem dX9_move_49 : decode cX9_move 49 = .ok (.iaload, 1) := by decide +kernel
theorem dX9_move_50 : decode cX9_move 50 = .ok (.aload_n 0, 1) := by decide +kernel
theorem dX9_move_51 : decode cX9_move 51 = .ok (.getfield 41, 3) := by decide +kernel
theorem dX9_move_54 : decode cX9_move 54 = .ok (.iload_n 3, 1) := by decide +kernel
theorem dX9_move_55 : decode cX9_move 55 = .ok (.iaload, 1) := by decide +kernel
theorem dX9_move_56 : decode cX9_move 56 = .ok (.if_icmp .eq 9, 3) := by decide +kernel
theorem dX9_move_59 : decode cX9_move 59 = .ok (.aload_n 0, 1) := by decide +kernel
theorem dX9_move_60 : decode cX9_move 60 = .ok (.iconst 5, 1) := by decide +kernel
theorem dX9_move_61 : decode cX9_move 61 = .ok (.invokevirtual 68, 3) := by decide +kernel
theorem dX9_move_64 : decode cX9_move 64 = .ok (.ireturn, 1) := by decide +kernel
theorem dX9_move_65 : decode cX9_move 65 = .ok (.iload 5, 2) := by decide +kernel
theorem dX9_move_67 : decode cX9_move 67 = .ok (.ifCond .lt 39, 3) := by decide +kernel
theorem dX9_move_70 : decode cX9_move 70 = .ok (.iload_n 2, 1) := by decide +kernel
theorem dX9_move_71 : decode cX9_move 71 = .ok (.ifCond .lt 35, 3) := by decide +kernel
theorem dX9_move_74 : decode cX9_move 74 = .ok (.iload 4, 2) := by decide +kernel
theorem dX9_move_76 : decode cX9_move 76 = .ok (.ifCond .lt 30, 3) := by decide +kernel
theorem dX9_move_79 : decode cX9_move 79 = .ok (.iload 5, 2) := by decide +kernel
theorem dX9_move_81 : decode cX9_move 81 = .ok (.aload_n 0, 1) := by decide +kernel
theorem dX9_move_82 : decode cX9_move 82 = .ok (.getfield 44, 3) := by decide +kernel
theorem dX9_move_85 : decode cX9_move 85 = .ok (.iload_n 1, 1) := by decide +kernel
theorem dX9_move_86 : decode cX9_move 86 = .ok (.iaload, 1) := by decide +kernel
theorem dX9_move_87 : decode cX9_move 87 = .ok (.iload_n 2, 1) := by decide +kernel
theorem dX9_move_88 : decode cX9_move 88 = .ok (.isub, 1) := by decide +kernel
theorem dX9_move_89 : decode cX9_move 89 = .ok (.if_icmp .gt 17, 3) := by decide +kernel
theorem dX9_move_92 : decode cX9_move 92 = .ok (.iload 5, 2) := by decide +kernel
theorem dX9_move_94 : decode cX9_move 94 = .ok (.aload_n 0, 1) := by decide +kernel
theorem dX9_move_95 : decode cX9_move 95 = .ok (.getfield 44, 3) := by decide +kernel
theorem dX9_move_98 : decode cX9_move 98 = .ok (.iload_n 3, 1) := by decide +kernel
theorem dX9_move_99 : decode cX9_move 99 = .ok (.iaload, 1) := by decide +kernel
theorem dX9_move_100 : decode cX9_move 100 = .ok (.iload 4, 2) := by decide +kernel
theorem dX9_move_102 : decode cX9_move 102 = .ok (.isub, 1) := by decide +kernel
theorem dX9_move_103 : decode cX9_move 103 = .ok (.if_icmp .le 9, 3) := by decide +kernel
theorem dX9_move_106 : decode cX9_move 106 = .ok (.aload_n 0, 1) := by decide +kernel
theorem dX9_move_107 : decode cX9_move 107 = .ok (.iconst 1, 1) := by decide +kernel
theorem dX9_move_108 : decode cX9_move 108 = .ok (.invokevirtual 68, 3) := by decide +kernel
theorem dX9_move_111 : decode cX9_move 111 = .ok (.ireturn, 1) := by decide +kernel
theorem dX9_move_112 : decode cX9_move 112 = .ok (.iconst 0, 1) := by decide +kernel
theorem dX9_move_113 : decode cX9_move 113 = .ok (.istore 6, 2) := by decide +kernel
theorem dX9_move_115 : decode cX9_move 115 = .ok (.iload 6, 2) := by decide +kernel
theorem dX9_move_117 : decode cX9_move 117 = .ok (.iload 5, 2) := by decide +kernel
theorem dX9_move_119 : decode cX9_move 119 = .ok (.if_icmp .ge 30, 3) := by decide +kernel
theorem dX9_move_122 : decode cX9_move 122 = .ok (.aload_n 0, 1) := by decide +kernel
theorem dX9_move_123 : decode cX9_move 123 = .ok (.getfield 50, 3) := by decide +kernel
theorem dX9_move_126 : decode cX9_move 126 = .ok (.iload 6, 2) := by decide +kernel
theorem dX9_move_128 : decode cX9_move 128 = .ok (.aload_n 0, 1) := by decide +kernel
theorem dX9_move_129 : decode cX9_move 129 = .ok (.getfield 47, 3) := by decide +kernel
theorem dX9_move_132 : decode cX9_move 132 = .ok (.bipush 40, 2) := by decide +kernel
theorem dX9_move_134 : decode cX9_move 134 = .ok (.iload_n 1, 1) := by decide +kernel
theorem dX9_move_135 : decode cX9_move 135 = .ok (.imul, 1) := by decide +kernel
theorem dX9_move_136 : decode cX9_move 136 = .ok (.iload_n 2, 1) := by decide +kernel
theorem dX9_move_137 : decode cX9_move 137 = .ok (.iadd, 1) := by decide +kernel
theorem dX9_move_138 : decode cX9_move 138 = .ok (.iload 6, 2) := by decide +kernel
theorem dX9_move_140 : decode cX9_move 140 = .ok (.iadd, 1) := by decide +kernel
theorem dX9_move_141 : decode cX9_move 141 = .ok (.iaload, 1) := by decide +kernel
theorem dX9_move_142 : decode cX9_move 142 = .ok (.iastore, 1) := by decide +kernel
theorem dX9_move_143 : decode cX9_move 143 = .ok (.iinc 6 1, 3) := by decide +kernel
theorem dX9_move_146 : decode cX9_move 146 = .ok (.goto (-31), 3) := by decide +kernel
theorem dX9_move_149 : decode cX9_move 149 = .ok (.iconst 0, 1) := by decide +kernel
theorem dX9_move_150 : decode cX9_move 150 = .ok (.istore 6, 2) := by decide +kernel
theorem dX9_move_152 : decode cX9_move 152 = .ok (.iload 6, 2) := by decide +kernel
theorem dX9_move_154 : decode cX9_move 154 = .ok (.iload 5, 2) := by decide +kernel
theorem dX9_move_156 : decode cX9_move 156 = .ok (.if_icmp .ge 31, 3) := by decide +kernel
theorem dX9_move_159 : decode cX9_move 159 = .ok (.aload_n 0, 1) := by decide +kernel
theorem dX9_move_160 : decode cX9_move 160 = .ok (.getfield 47, 3) := by decide +kernel
theorem dX9_move_163 : decode cX9_move 163 = .ok (.bipush 40, 2) := by decide +kernel
theorem dX9_move_165 : decode cX9_move 165 = .ok (.iload_n 3, 1) := by decide +kernel
theorem dX9_move_166 : decode cX9_move 166 = .ok (.imul, 1) := by decide +kernel
theorem dX9_move_167 : decode cX9_move 167 = .ok (.iload 4, 2) := by decide +kernel
theorem dX9_move_169 : decode cX9_move 169 = .ok (.iadd, 1) := by decide +kernel
theorem dX9_move_170 : decode cX9_move 170 = .ok (.iload 6, 2) := by decide +kernel
theorem dX9_move_172 : decode cX9_move 172 = .ok (.iadd, 1) := by decide +kernel
theorem dX9_move_173 : decode cX9_move 173 = .ok (.aload_n 0, 1) := by decide +kernel
theorem dX9_move_174 : decode cX9_move 174 = .ok (.getfield 50, 3) := by decide +kernel
theorem dX9_move_177 : decode cX9_move 177 = .ok (.iload 6, 2) := by decide +kernel
theorem dX9_move_179 : decode cX9_move 179 = .ok (.iaload, 1) := by decide +kernel
theorem dX9_move_180 : decode cX9_move 180 = .ok (.iastore, 1) := by decide +kernel
theorem dX9_move_181 : decode cX9_move 181 = .ok (.iinc 6 1, 3) := by decide +kernel
theorem dX9_move_184 : decode cX9_move 184 = .ok (.goto (-32), 3) := by decide +kernel
theorem dX9_move_187 : decode cX9_move 187 = .ok (.iload 5, 2) := by decide +kernel
theorem dX9_move_189 : decode cX9_move 189 = .ok (.ireturn, 1) := by decide +kernel
theorem dX9_image_0 : decode cX9_image 0 = .ok (.iconst 0, 1) := by decide +kernel
theorem dX9_image_1 : decode cX9_image 1 = .ok (.istore_n 1, 1) := by decide +kernel
theorem dX9_image_2 : decode cX9_image 2 = .ok (.iload_n 1, 1) := by decide +kernel
theorem dX9_image_3 : decode cX9_image 3 = .ok (.sipush 1250, 3) := by decide +kernel
theorem dX9_image_6 : decode cX9_image 6 = .ok (.if_icmp .ge 21, 3) := by decide +kernel
theorem dX9_image_9 : decode cX9_image 9 = .ok (.aload_n 0, 1) := by decide +kernel
theorem dX9_image_10 : decode cX9_image 10 = .ok (.getfield 13, 3) := by decide +kernel
theorem dX9_image_13 : decode cX9_image 13 = .ok (.iload_n 1, 1) := by decide +kernel
theorem dX9_image_14 : decode cX9_image 14 = .ok (.aload_n 0, 1) := by decide +kernel
theorem dX9_image_15 : decode cX9_image 15 = .ok (.getfield 7, 3) := by decide +kernel
theorem dX9_image_18 : decode cX9_image 18 = .ok (.iload_n 1, 1) := by decide +kernel
theorem dX9_image_19 : decode cX9_image 19 = .ok (.iaload, 1) := by decide +kernel
theorem dX9_image_20 : decode cX9_image 20 = .ok (.iastore, 1) := by decide +kernel
theorem dX9_image_21 : decode cX9_image 21 = .ok (.iinc 1 1, 3) := by decide +kernel
theorem dX9_image_24 : decode cX9_image 24 = .ok (.goto (-22), 3) := by decide +kernel
theorem dX9_image_27 : decode cX9_image 27 = .ok (.aload_n 0, 1) := by decide +kernel
theorem dX9_image_28 : decode cX9_image 28 = .ok (.dup, 1) := by decide +kernel
theorem dX9_image_29 : decode cX9_image 29 = .ok (.getfield 324, 3) := by decide +kernel
theorem dX9_image_32 : decode cX9_image 32 = .ok (.iconst 1, 1) := by decide +kernel
theorem dX9_image_33 : decode cX9_image 33 = .ok (.iadd, 1) := by decide +kernel
theorem dX9_image_34 : decode cX9_image 34 = .ok (.putfield 324, 3) := by decide +kernel
theorem dX9_image_37 : decode cX9_image 37 = .ok (.aload_n 0, 1) := by decide +kernel
theorem dX9_image_38 : decode cX9_image 38 = .ok (.getfield 324, 3) := by decide +kernel
theorem dX9_image_41 : decode cX9_image 41 = .ok (.ireturn, 1) := by decide +kernel
set_option maxRecDepth 20000 in
theorem ggX9_restore_X9_finds : GoodIn wsX9_restore wsX9_finds := goodIn_r _ [8, 9, 10, 11, 12, 13, 14, 15, 16, 17, 18, 19, 20, 21, 22, 23, 24, 25, 26, 27, 28, 29, 30, 31, 32, 33] (by decide +kernel) (by decide +kernel)
set_option maxRecDepth 20000 in
theorem gX9_restore_X9_finds : GoodIn wsX9_restore (wsV RX9 68 RX9 yX9_finds wsX9_finds) := goodIn_app (goodIn_of _ (by decide +kernel)) ggX9_restore_X9_finds
theorem dX9_restore_0 : decode cX9_restore 0 = .ok (.aload_n 0, 1) := by decide +kernel
theorem dX9_restore_1 : decode cX9_restore 1 = .ok (.getfield 324, 3) := by decide +kernel
theorem dX9_restore_4 : decode cX9_restore 4 = .ok (.ifCond .ne 9, 3) := by decide +kernel
theorem dX9_restore_7 : decode cX9_restore 7 = .ok (.aload_n 0, 1) := by decide +kernel
theorem dX9_restore_8 : decode cX9_restore 8 = .ok (.iconst 2, 1) := by decide +kernel
theorem dX9_restore_9 : decode cX9_restore 9 = .ok (.invokevirtual 68, 3) := by decide +kernel
theorem dX9_restore_12 : decode cX9_restore 12 = .ok (.ireturn, 1) := by decide +kernel
theorem dX9_restore_13 : decode cX9_restore 13 = .ok (.iconst 0, 1) := by decide +kernel
theorem dX9_restore_14 : decode cX9_restore 14 = .ok (.istore_n 1, 1) := by decide +kernel
theorem dX9_restore_15 : decode cX9_restore 15 = .ok (.iload_n 1, 1) := by decide +kernel
theorem dX9_restore_16 : decode cX9_restore 16 = .ok (.sipush 1250, 3) := by decide +kernel
theorem dX9_restore_19 : decode cX9_restore 19 = .ok (.if_icmp .ge 21, 3) := by decide +kernel
theorem dX9_restore_22 : decode cX9_restore 22 = .ok (.aload_n 0, 1) := by decide +kernel
theorem dX9_restore_23 : decode cX9_restore 23 = .ok (.getfield 7, 3) := by decide +kernel
theorem dX9_restore_26 : decode cX9_restore 26 = .ok (.iload_n 1, 1) := by decide +kernel
theorem dX9_restore_27 : decode cX9_restore 27 = .ok (.aload_n 0, 1) := by decide +kernel
theorem dX9_restore_28 : decode cX9_restore 28 = .ok (.getfield 13, 3) := by decide +kernel
theorem dX9_restore_31 : decode cX9_restore 31 = .ok (.iload_n 1, 1) := by decide +kernel
theorem dX9_restore_32 : decode cX9_restore 32 = .ok (.iaload, 1) := by decide +kernel
theorem dX9_restore_33 : decode cX9_restore 33 = .ok (.iastore, 1) := by decide +kernel
theorem dX9_restore_34 : decode cX9_restore 34 = .ok (.iinc 1 1, 3) := by decide +kernel
theorem dX9_restore_37 : decode cX9_restore 37 = .ok (.goto (-22), 3) := by decide +kernel
theorem dX9_restore_40 : decode cX9_restore 40 = .ok (.aload_n 0, 1) := by decide +kernel
theorem dX9_restore_41 : decode cX9_restore 41 = .ok (.getfield 7, 3) := by decide +kernel
theorem dX9_restore_44 : decode cX9_restore 44 = .ok (.iconst 0, 1) := by decide +kernel
theorem dX9_restore_45 : decode cX9_restore 45 = .ok (.iaload, 1) := by decide +kernel
theorem dX9_restore_46 : decode cX9_restore 46 = .ok (.ireturn, 1) := by decide +kernel
set_option maxRecDepth 20000 in
theorem ggX9_tell_X9_finds : GoodIn wsX9_tell wsX9_finds := goodIn_r _ [6, 7, 8, 9, 10, 11, 12, 13, 14, 15, 16, 17, 18, 19, 20, 21, 22, 23, 24, 25, 26, 27, 28, 29, 30, 31] (by decide +kernel) (by decide +kernel)
set_option maxRecDepth 20000 in
theorem gX9_tell_X9_finds : GoodIn wsX9_tell (wsV RX9 68 RX9 yX9_finds wsX9_finds) := goodIn_app (goodIn_of _ (by decide +kernel)) ggX9_tell_X9_finds
theorem dX9_tell_0 : decode cX9_tell 0 = .ok (.aload_n 0, 1) := by decide +kernel
theorem dX9_tell_1 : decode cX9_tell 1 = .ok (.getfield 7, 3) := by decide +kernel
theorem dX9_tell_4 : decode cX9_tell 4 = .ok (.bipush 10, 2) := by decide +kernel
theorem dX9_tell_6 : decode cX9_tell 6 = .ok (.iaload, 1) := by decide +kernel
theorem dX9_tell_7 : decode cX9_tell 7 = .ok (.bipush 20, 2) := by decide +kernel
theorem dX9_tell_9 : decode cX9_tell 9 = .ok (.if_icmp .ne 9, 3) := by decide +kernel
theorem dX9_tell_12 : decode cX9_tell 12 = .ok (.aload_n 0, 1) := by decide +kernel
theorem dX9_tell_13 : decode cX9_tell 13 = .ok (.iconst 4, 1) := by decide +kernel
theorem dX9_tell_14 : decode cX9_tell 14 = .ok (.invokevirtual 68, 3) := by decide +kernel
theorem dX9_tell_17 : decode cX9_tell 17 = .ok (.ireturn, 1) := by decide +kernel
theorem dX9_tell_18 : decode cX9_tell 18 = .ok (.aload_n 0, 1) := by decide +kernel
theorem dX9_tell_19 : decode cX9_tell 19 = .ok (.getfield 7, 3) := by decide +kernel
theorem dX9_tell_22 : decode cX9_tell 22 = .ok (.sipush 590, 3) := by decide +kernel
theorem dX9_tell_25 : decode cX9_tell 25 = .ok (.aload_n 0, 1) := by decide +kernel
theorem dX9_tell_26 : decode cX9_tell 26 = .ok (.getfield 7, 3) := by decide +kernel
theorem dX9_tell_29 : decode cX9_tell 29 = .ok (.bipush 10, 2) := by decide +kernel
theorem dX9_tell_31 : decode cX9_tell 31 = .ok (.iaload, 1) := by decide +kernel
theorem dX9_tell_32 : decode cX9_tell 32 = .ok (.iadd, 1) := by decide +kernel
theorem dX9_tell_33 : decode cX9_tell 33 = .ok (.iload_n 1, 1) := by decide +kernel
theorem dX9_tell_34 : decode cX9_tell 34 = .ok (.iastore, 1) := by decide +kernel
theorem dX9_tell_35 : decode cX9_tell 35 = .ok (.aload_n 0, 1) := by decide +kernel
theorem dX9_tell_36 : decode cX9_tell 36 = .ok (.getfield 7, 3) := by decide +kernel
theorem dX9_tell_39 : decode cX9_tell 39 = .ok (.bipush 10, 2) := by decide +kernel
theorem dX9_tell_41 : decode cX9_tell 41 = .ok (.dup2, 1) := by decide +kernel
theorem dX9_tell_42 : decode cX9_tell 42 = .ok (.iaload, 1) := by decide +kernel
theorem dX9_tell_43 : decode cX9_tell 43 = .ok (.iconst 1, 1) := by decide +kernel
theorem dX9_tell_44 : decode cX9_tell 44 = .ok (.iadd, 1) := by decide +kernel
theorem dX9_tell_45 : decode cX9_tell 45 = .ok (.iastore, 1) := by decide +kernel
theorem dX9_tell_46 : decode cX9_tell 46 = .ok (.aload_n 0, 1) := by decide +kernel
theorem dX9_tell_47 : decode cX9_tell 47 = .ok (.getfield 7, 3) := by decide +kernel
theorem dX9_tell_50 : decode cX9_tell 50 = .ok (.bipush 10, 2) := by decide +kernel
theorem dX9_tell_52 : decode cX9_tell 52 = .ok (.iaload, 1) := by decide +kernel
theorem dX9_tell_53 : decode cX9_tell 53 = .ok (.ireturn, 1) := by decide +kernel
set_option maxRecDepth 20000 in
theorem ggX9_check_X9_isPlace : GoodIn wsX9_check wsX9_isPlace := goodIn_r _ [6, 1, 7, 8, 5, 9, 28, 29, 30, 31, 32, 33, 34, 35, 36, 37, 38, 39, 40, 41, 42, 43, 44, 45, 46, 47, 48, 49, 50] (by decide +kernel) (by decide +kernel)
set_option maxRecDepth 20000 in
theorem gX9_check_X9_isPlace : GoodIn wsX9_check (wsV RX9 58 RX9 yX9_isPlace wsX9_isPlace) := goodIn_app (goodIn_of _ (by decide +kernel)) ggX9_check_X9_isPlace
set_option maxRecDepth 20000 in
theorem ggX9_check_X9_isPact : GoodIn wsX9_check wsX9_isPact := goodIn_r _ [12, 13, 7, 8, 5, 9] (by decide +kernel) (by decide +kernel)
set_option maxRecDepth 20000 in
theorem gX9_check_X9_isPact : GoodIn wsX9_check (va_wsS RX9 111 yX9_isPact wsX9_isPact) := goodIn_app (goodIn_of _ (by decide +kernel)) ggX9_check_X9_isPact
set_option maxRecDepth 20000 in
theorem ggX9_check_X9_finds : GoodIn wsX9_check wsX9_finds := goodIn_r _ [17, 18, 19, 28, 29, 30, 31, 32, 33, 34, 35, 36, 37, 38, 39, 40, 41, 42, 43, 44, 45, 46, 47, 48, 49, 50] (by decide +kernel) (by decide +kernel)
set_option maxRecDepth 20000 in
theorem gX9_check_X9_finds : GoodIn wsX9_check (wsV RX9 68 RX9 yX9_finds wsX9_finds) := goodIn_app (goodIn_of _ (by decide +kernel)) ggX9_check_X9_finds
set_option maxRecDepth 20000 in
theorem ggX9_check_X9_hasCome : GoodIn wsX9_check wsX9_hasCome := goodIn_r _ [23, 24, 25, 26, 5, 27, 1, 28, 29, 30, 31, 32, 33, 34, 35, 36, 37, 38, 39, 40, 41, 42, 43, 44, 45, 46, 47, 48, 49, 50] (by decide +kernel) (by decide +kernel)
set_option maxRecDepth 20000 in
theorem gX9_check_X9_hasCome : GoodIn wsX9_check (wsV RX9 102 RX9 yX9_hasCome wsX9_hasCome) := goodIn_app (goodIn_of _ (by decide +kernel)) ggX9_check_X9_hasCome
set_option maxRecDepth 20000 in
theorem ggX9_check_X9_wo : GoodIn wsX9_check wsX9_wo := goodIn_r _ [27, 1, 28, 29, 30, 31, 32, 33, 34, 35, 36, 37, 38, 39, 40, 41, 42, 43, 44, 45, 46, 47, 48, 49, 50] (by decide +kernel) (by decide +kernel)
set_option maxRecDepth 20000 in
theorem gX9_check_X9_wo : GoodIn wsX9_check (wsV RX9 99 RX9 yX9_wo wsX9_wo) := goodIn_app (goodIn_of _ (by decide +kernel)) ggX9_check_X9_wo
theorem dX9_check_0 : decode cX9_check 0 = .ok (.aload_n 0, 1) := by decide +kernel
theorem dX9_check_1 : decode cX9_check 1 = .ok (.getfield 7, 3) := by decide +kernel
theorem dX9_check_4 : decode cX9_check 4 = .ok (.bipush 10, 2) := by decide +kernel
theorem dX9_check_6 : decode cX9_check 6 = .ok (.iaload, 1) := by decide +kernel
theorem dX9_check_7 : decode cX9_check 7 = .ok (.istore_n 3, 1) := by decide +kernel
theorem dX9_check_8 : decode cX9_check 8 = .ok (.aload_n 0, 1) := by decide +kernel
theorem dX9_check_9 : decode cX9_check 9 = .ok (.getfield 7, 3) := by decide +kernel
theorem dX9_check_12 : decode cX9_check 12 = .ok (.bipush 10, 2) := by decide +kernel
theorem dX9_check_14 : decode cX9_check 14 = .ok (.iconst 0, 1) := by decide +kernel
theorem dX9_check_15 : decode cX9_check 15 = .ok (.iastore, 1) := by decide +kernel
theorem dX9_check_16 : decode cX9_check 16 = .ok (.aload_n 0, 1) := by decide +kernel
theorem dX9_check_17 : decode cX9_check 17 = .ok (.iload_n 1, 1) := by decide +kernel
theorem dX9_check_18 : decode cX9_check 18 = .ok (.invokevirtual 58, 3) := by decide +kernel
theorem dX9_check_21 : decode cX9_check 21 = .ok (.ifCond .eq 10, 3) := by decide +kernel
theorem dX9_check_24 : decode cX9_check 24 = .ok (.iload_n 2, 1) := by decide +kernel
theorem dX9_check_25 : decode cX9_check 25 = .ok (.invokestatic 111, 3) := by decide +kernel
theorem dX9_check_28 : decode cX9_check 28 = .ok (.ifCond .ne 9, 3) := by decide +kernel
theorem dX9_check_31 : decode cX9_check 31 = .ok (.aload_n 0, 1) := by decide +kernel
theorem dX9_check_32 : decode cX9_check 32 = .ok (.iconst 1, 1) := by decide +kernel
theorem dX9_check_33 : decode cX9_check 33 = .ok (.invokevirtual 68, 3) := by decide +kernel
theorem dX9_check_36 : decode cX9_check 36 = .ok (.ireturn, 1) := by decide +kernel
theorem dX9_check_37 : decode cX9_check 37 = .ok (.iconst 0, 1) := by decide +kernel
theorem dX9_check_38 : decode cX9_check 38 = .ok (.istore 4, 2) := by decide +kernel
theorem dX9_check_40 : decode cX9_check 40 = .ok (.iconst 0, 1) := by decide +kernel
theorem dX9_check_41 : decode cX9_check 41 = .ok (.istore 5, 2) := by decide +kernel
theorem dX9_check_43 : decode cX9_check 43 = .ok (.iload 5, 2) := by decide +kernel
theorem dX9_check_45 : decode cX9_check 45 = .ok (.aload_n 0, 1) := by decide +kernel
theorem dX9_check_46 : decode cX9_check 46 = .ok (.getfield 7, 3) := by decide +kernel
theorem dX9_check_49 : decode cX9_check 49 = .ok (.iconst 0, 1) := by decide +kernel
theorem dX9_check_50 : decode cX9_check 50 = .ok (.iaload, 1) := by decide +kernel
theorem dX9_check_51 : decode cX9_check 51 = .ok (.if_icmp .gt 84, 3) := by decide +kernel
theorem dX9_check_54 : decode cX9_check 54 = .ok (.iconst 0, 1) := by decide +kernel
theorem dX9_check_55 : decode cX9_check 55 = .ok (.istore 6, 2) := by decide +kernel
theorem dX9_check_57 : decode cX9_check 57 = .ok (.iload 6, 2) := by decide +kernel
theorem dX9_check_59 : decode cX9_check 59 = .ok (.aload_n 0, 1) := by decide +kernel
theorem dX9_check_60 : decode cX9_check 60 = .ok (.getfield 7, 3) := by decide +kernel
theorem dX9_check_63 : decode cX9_check 63 = .ok (.iconst 2, 1) := by decide +kernel
theorem dX9_check_64 : decode cX9_check 64 = .ok (.iaload, 1) := by decide +kernel
theorem dX9_check_65 : decode cX9_check 65 = .ok (.if_icmp .ge 64, 3) := by decide +kernel
theorem dX9_check_68 : decode cX9_check 68 = .ok (.aload_n 0, 1) := by decide +kernel
theorem dX9_check_69 : decode cX9_check 69 = .ok (.iload 6, 2) := by decide +kernel
theorem dX9_check_71 : decode cX9_check 71 = .ok (.iload_n 1, 1) := by decide +kernel
theorem dX9_check_72 : decode cX9_check 72 = .ok (.iload_n 2, 1) := by decide +kernel
theorem dX9_check_73 : decode cX9_check 73 = .ok (.iload 5, 2) := by decide +kernel
theorem dX9_check_75 : decode cX9_check 75 = .ok (.invokevirtual 102, 3) := by decide +kernel
theorem dX9_check_78 : decode cX9_check 78 = .ok (.ifCond .eq 45, 3) := by decide +kernel
theorem dX9_check_81 : decode cX9_check 81 = .ok (.aload_n 0, 1) := by decide +kernel
theorem dX9_check_82 : decode cX9_check 82 = .ok (.iload 6, 2) := by decide +kernel
theorem dX9_check_84 : decode cX9_check 84 = .ok (.iconst 5, 1) := by decide +kernel
theorem dX9_check_85 : decode cX9_check 85 = .ok (.invokevirtual 99, 3) := by decide +kernel
theorem dX9_check_88 : decode cX9_check 88 = .ok (.iload 5, 2) := by decide +kernel
theorem dX9_check_90 : decode cX9_check 90 = .ok (.if_icmp .ne 33, 3) := by decide +kernel
theorem dX9_check_93 : decode cX9_check 93 = .ok (.iload 4, 2) := by decide +kernel
theorem dX9_check_95 : decode cX9_check 95 = .ok (.iload_n 3, 1) := by decide +kernel
theorem dX9_check_96 : decode cX9_check 96 = .ok (.if_icmp .eq 19, 3) := by decide +kernel
theorem dX9_check_99 : decode cX9_check 99 = .ok (.aload_n 0, 1) := by decide +kernel
theorem dX9_check_100 : decode cX9_check 100 = .ok (.getfield 7, 3) := by decide +kernel
theorem dX9_check_103 : decode cX9_check 103 = .ok (.sipush 590, 3) := by decide +kernel
theorem dX9_check_106 : decode cX9_check 106 = .ok (.iload 4, 2) := by decide +kernel
theorem dX9_check_108 : decode cX9_check 108 = .ok (.iadd, 1) := by decide +kernel
theorem dX9_check_109 : decode cX9_check 109 = .ok (.iaload, 1) := by decide +kernel
theorem dX9_check_110 : decode cX9_check 110 = .ok (.iload 6, 2) := by decide +kernel
theorem dX9_check_112 : decode cX9_check 112 = .ok (.if_icmp .eq 8, 3) := by decide +kernel
theorem dX9_check_115 : decode cX9_check 115 = .ok (.iconst 1, 1) := by decide +kernel
theorem dX9_check_116 : decode cX9_check 116 = .ok (.iload 4, 2) := by decide +kernel
theorem dX9_check_118 : decode cX9_check 118 = .ok (.iadd, 1) := by decide +kernel
theorem dX9_check_119 : decode cX9_check 119 = .ok (.ireturn, 1) := by decide +kernel
theorem dX9_check_120 : decode cX9_check 120 = .ok (.iinc 4 1, 3) := by decide +kernel
theorem dX9_check_123 : decode cX9_check 123 = .ok (.iinc 6 1, 3) := by decide +kernel
theorem dX9_check_126 : decode cX9_check 126 = .ok (.goto (-69), 3) := by decide +kernel
theorem dX9_check_129 : decode cX9_check 129 = .ok (.iinc 5 1, 3) := by decide +kernel
theorem dX9_check_132 : decode cX9_check 132 = .ok (.goto (-89), 3) := by decide +kernel
theorem dX9_check_135 : decode cX9_check 135 = .ok (.iload 4, 2) := by decide +kernel
theorem dX9_check_137 : decode cX9_check 137 = .ok (.iload_n 3, 1) := by decide +kernel
theorem dX9_check_138 : decode cX9_check 138 = .ok (.if_icmp .ge 10, 3) := by decide +kernel
theorem dX9_check_141 : decode cX9_check 141 = .ok (.iconst 1, 1) := by decide +kernel
theorem dX9_check_142 : decode cX9_check 142 = .ok (.iload 4, 2) := by decide +kernel
theorem dX9_check_144 : decode cX9_check 144 = .ok (.iadd, 1) := by decide +kernel
theorem dX9_check_145 : decode cX9_check 145 = .ok (.goto 4, 3) := by decide +kernel
theorem dX9_check_148 : decode cX9_check 148 = .ok (.iconst 0, 1) := by decide +kernel
theorem dX9_check_149 : decode cX9_check 149 = .ok (.ireturn, 1) := by decide +kernel
set_option maxRecDepth 20000 in
theorem ggX9_lostMany_X9_wo : GoodIn wsX9_lostMany wsX9_wo := goodIn_r _ [6, 1, 7, 8, 9, 10, 11, 12, 13, 14, 15, 16, 17, 18, 19, 20, 21, 22, 23, 24, 25, 26, 27, 28, 29] (by decide +kernel) (by decide +kernel)
set_option maxRecDepth 20000 in
theorem gX9_lostMany_X9_wo : GoodIn wsX9_lostMany (wsV RX9 99 RX9 yX9_wo wsX9_wo) := goodIn_app (goodIn_of _ (by decide +kernel)) ggX9_lostMany_X9_wo
theorem dX9_lostMany_0 : decode cX9_lostMany 0 = .ok (.iconst 0, 1) := by decide +kernel
theorem dX9_lostMany_1 : decode cX9_lostMany 1 = .ok (.istore_n 1, 1) := by decide +kernel
theorem dX9_lostMany_2 : decode cX9_lostMany 2 = .ok (.iconst 0, 1) := by decide +kernel
theorem dX9_lostMany_3 : decode cX9_lostMany 3 = .ok (.istore_n 2, 1) := by decide +kernel
theorem dX9_lostMany_4 : decode cX9_lostMany 4 = .ok (.iload_n 2, 1) := by decide +kernel
theorem dX9_lostMany_5 : decode cX9_lostMany 5 = .ok (.aload_n 0, 1) := by decide +kernel
theorem dX9_lostMany_6 : decode cX9_lostMany 6 = .ok (.getfield 7, 3) := by decide +kernel
theorem dX9_lostMany_9 : decode cX9_lostMany 9 = .ok (.iconst 2, 1) := by decide +kernel
theorem dX9_lostMany_10 : decode cX9_lostMany 10 = .ok (.iaload, 1) := by decide +kernel
theorem dX9_lostMany_11 : decode cX9_lostMany 11 = .ok (.if_icmp .ge 26, 3) := by decide +kernel
theorem dX9_lostMany_14 : decode cX9_lostMany 14 = .ok (.iload_n 1, 1) := by decide +kernel
theorem dX9_lostMany_15 : decode cX9_lostMany 15 = .ok (.aload_n 0, 1) := by decide +kernel
theorem dX9_lostMany_16 : decode cX9_lostMany 16 = .ok (.iload_n 2, 1) := by decide +kernel
theorem dX9_lostMany_17 : decode cX9_lostMany 17 = .ok (.iconst 5, 1) := by decide +kernel
theorem dX9_lostMany_18 : decode cX9_lostMany 18 = .ok (.invokevirtual 99, 3) := by decide +kernel
theorem dX9_lostMany_21 : decode cX9_lostMany 21 = .ok (.ifCond .ge 7, 3) := by decide +kernel
theorem dX9_lostMany_24 : decode cX9_lostMany 24 = .ok (.iconst 1, 1) := by decide +kernel
theorem dX9_lostMany_25 : decode cX9_lostMany 25 = .ok (.goto 4, 3) := by decide +kernel
theorem dX9_lostMany_28 : decode cX9_lostMany 28 = .ok (.iconst 0, 1) := by decide +kernel
theorem dX9_lostMany_29 : decode cX9_lostMany 29 = .ok (.iadd, 1) := by decide +kernel
theorem dX9_lostMany_30 : decode cX9_lostMany 30 = .ok (.istore_n 1, 1) := by decide +kernel
theorem dX9_lostMany_31 : decode cX9_lostMany 31 = .ok (.iinc 2 1, 3) := by decide +kernel
theorem dX9_lostMany_34 : decode cX9_lostMany 34 = .ok (.goto (-30), 3) := by decide +kernel
theorem dX9_lostMany_37 : decode cX9_lostMany 37 = .ok (.iload_n 1, 1) := by decide +kernel
theorem dX9_lostMany_38 : decode cX9_lostMany 38 = .ok (.ireturn, 1) := by decide +kernel
set_option maxRecDepth 20000 in
theorem ggX9_count_X9_lostMany : GoodIn wsX9_count wsX9_lostMany := goodIn_r _ [7, 1, 8, 9, 10, 6, 11, 18, 19, 20, 21, 22, 23, 24, 25, 26, 27, 28, 29, 30, 31, 32, 33, 34, 35, 36, 37, 38, 39, 40] (by decide +kernel) (by decide +kernel)
set_option maxRecDepth 20000 in
theorem gX9_count_X9_lostMany : GoodIn wsX9_count (wsV RX9 327 RX9 yX9_lostMany wsX9_lostMany) := goodIn_app (goodIn_of _ (by decide +kernel)) ggX9_count_X9_lostMany
set_option maxRecDepth 20000 in
theorem ggX9_count_X9_finds : GoodIn wsX9_count wsX9_finds := goodIn_r _ [15, 16, 17, 18, 19, 20, 21, 22, 23, 24, 25, 26, 27, 28, 29, 30, 31, 32, 33, 34, 35, 36, 37, 38, 39, 40] (by decide +kernel) (by decide +kernel)
set_option maxRecDepth 20000 in
theorem gX9_count_X9_finds : GoodIn wsX9_count (wsV RX9 68 RX9 yX9_finds wsX9_finds) := goodIn_app (goodIn_of _ (by decide +kernel)) ggX9_count_X9_finds
theorem dX9_count_0 : decode cX9_count 0 = .ok (.iload_n 1, 1) := by decide +kernel
theorem dX9_count_1 : decode cX9_count 1 = .ok (.tableswitch 112 0 8 #[51, 58, 65, 72, 77, 84, 92, 100, 105], 51) := by decide +kernel
theorem dX9_count_52 : decode cX9_count 52 = .ok (.aload_n 0, 1) := by decide +kernel
theorem dX9_count_53 : decode cX9_count 53 = .ok (.getfield 7, 3) := by decide +kernel
theorem dX9_count_56 : decode cX9_count 56 = .ok (.iconst 0, 1) := by decide +kernel
theorem dX9_count_57 : decode cX9_count 57 = .ok (.iaload, 1) := by decide +kernel
theorem dX9_count_58 : decode cX9_count 58 = .ok (.ireturn, 1) := by decide +kernel
theorem dX9_count_59 : decode cX9_count 59 = .ok (.aload_n 0, 1) := by decide +kernel
theorem dX9_count_60 : decode cX9_count 60 = .ok (.getfield 7, 3) := by decide +kernel
theorem dX9_count_63 : decode cX9_count 63 = .ok (.iconst 1, 1) := by decide +kernel
theorem dX9_count_64 : decode cX9_count 64 = .ok (.iaload, 1) := by decide +kernel
theorem dX9_count_65 : decode cX9_count 65 = .ok (.ireturn, 1) := by decide +kernel
theorem dX9_count_66 : decode cX9_count 66 = .ok (.aload_n 0, 1) := by decide +kernel
theorem dX9_count_67 : decode cX9_count 67 = .ok (.getfield 7, 3) := by decide +kernel
theorem dX9_count_70 : decode cX9_count 70 = .ok (.iconst 2, 1) := by decide +kernel
theorem dX9_count_71 : decode cX9_count 71 = .ok (.iaload, 1) := by decide +kernel
theorem dX9_count_72 : decode cX9_count 72 = .ok (.ireturn, 1) := by decide +kernel
