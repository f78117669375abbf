theorem dX8_areOfTwoMinds_90 : decode cX8_areOfTwoMinds 90 = .ok (.iload 8, 2) := by decide +kernel
theorem dX8_areOfTwoMinds_92 : decode cX8_areOfTwoMinds 92 = .ok (.iload 9, 2) := by decide +kernel
theorem dX8_areOfTwoMinds_94 : decode cX8_areOfTwoMinds 94 = .ok (.if_icmp .ne 7, 3) := by decide +kernel
theorem dX8_areOfTwoMinds_97 : decode cX8_areOfTwoMinds 97 = .ok (.iconst 1, 1) := by decide +kernel
theorem dX8_areOfTwoMinds_98 : decode cX8_areOfTwoMinds 98 = .ok (.goto 4, 3) := by decide +kernel
theorem dX8_areOfTwoMinds_101 : decode cX8_areOfTwoMinds 101 = .ok (.iconst 0, 1) := by decide +kernel
theorem dX8_areOfTwoMinds_102 : decode cX8_areOfTwoMinds 102 = .ok (.ireturn, 1) := by decide +kernel
set_option maxRecDepth 20000 in
theorem ggX8_firstUnlike_X0_isFor : GoodIn wsX8_firstUnlike wsX0_isFor := goodIn_r _ [12, 13, 14, 43, 44, 45, 46, 47, 48, 49, 50, 51, 52, 53] (by decide +kernel) (by decide +kernel)
set_option maxRecDepth 20000 in
theorem gX8_firstUnlike_X0_isFor : GoodIn wsX8_firstUnlike (wsV RX8 367 RX0 yX0_isFor wsX0_isFor) := goodIn_app (goodIn_of _ (by decide +kernel)) ggX8_firstUnlike_X0_isFor
theorem dX8_firstUnlike_0 : decode cX8_firstUnlike 0 = .ok (.aload_n 0, 1) := by decide +kernel
theorem dX8_firstUnlike_1 : decode cX8_firstUnlike 1 = .ok (.getfield 16, 3) := by decide +kernel
theorem dX8_firstUnlike_4 : decode cX8_firstUnlike 4 = .ok (.getfield 29, 3) := by decide +kernel
theorem dX8_firstUnlike_7 : decode cX8_firstUnlike 7 = .ok (.astore 4, 2) := by decide +kernel
theorem dX8_firstUnlike_9 : decode cX8_firstUnlike 9 = .ok (.iconst 0, 1) := by decide +kernel
theorem dX8_firstUnlike_10 : decode cX8_firstUnlike 10 = .ok (.istore 5, 2) := by decide +kernel
theorem dX8_firstUnlike_12 : decode cX8_firstUnlike 12 = .ok (.iconst 0, 1) := by decide +kernel
theorem dX8_firstUnlike_13 : decode cX8_firstUnlike 13 = .ok (.istore 6, 2) := by decide +kernel
theorem dX8_firstUnlike_15 : decode cX8_firstUnlike 15 = .ok (.iload 6, 2) := by decide +kernel
theorem dX8_firstUnlike_17 : decode cX8_firstUnlike 17 = .ok (.aload 4, 2) := by decide +kernel
theorem dX8_firstUnlike_19 : decode cX8_firstUnlike 19 = .ok (.getfield 328, 3) := by decide +kernel
theorem dX8_firstUnlike_22 : decode cX8_firstUnlike 22 = .ok (.if_icmp .ge 81, 3) := by decide +kernel
theorem dX8_firstUnlike_25 : decode cX8_firstUnlike 25 = .ok (.aload 4, 2) := by decide +kernel
theorem dX8_firstUnlike_27 : decode cX8_firstUnlike 27 = .ok (.getfield 364, 3) := by decide +kernel
theorem dX8_firstUnlike_30 : decode cX8_firstUnlike 30 = .ok (.iload 6, 2) := by decide +kernel
theorem dX8_firstUnlike_32 : decode cX8_firstUnlike 32 = .ok (.iaload, 1) := by decide +kernel
theorem dX8_firstUnlike_33 : decode cX8_firstUnlike 33 = .ok (.istore 7, 2) := by decide +kernel
theorem dX8_firstUnlike_35 : decode cX8_firstUnlike 35 = .ok (.aload 4, 2) := by decide +kernel
theorem dX8_firstUnlike_37 : decode cX8_firstUnlike 37 = .ok (.getfield 147, 3) := by decide +kernel
theorem dX8_firstUnlike_40 : decode cX8_firstUnlike 40 = .ok (.iload 7, 2) := by decide +kernel
theorem dX8_firstUnlike_42 : decode cX8_firstUnlike 42 = .ok (.iaload, 1) := by decide +kernel
theorem dX8_firstUnlike_43 : decode cX8_firstUnlike 43 = .ok (.aload_n 0, 1) := by decide +kernel
theorem dX8_firstUnlike_44 : decode cX8_firstUnlike 44 = .ok (.getfield 16, 3) := by decide +kernel
theorem dX8_firstUnlike_47 : decode cX8_firstUnlike 47 = .ok (.getfield 156, 3) := by decide +kernel
theorem dX8_firstUnlike_50 : decode cX8_firstUnlike 50 = .ok (.if_icmp .le 6, 3) := by decide +kernel
theorem dX8_firstUnlike_53 : decode cX8_firstUnlike 53 = .ok (.goto 50, 3) := by decide +kernel
theorem dX8_firstUnlike_56 : decode cX8_firstUnlike 56 = .ok (.aload 4, 2) := by decide +kernel
theorem dX8_firstUnlike_58 : decode cX8_firstUnlike 58 = .ok (.iload 7, 2) := by decide +kernel
theorem dX8_firstUnlike_60 : decode cX8_firstUnlike 60 = .ok (.iload_n 1, 1) := by decide +kernel
theorem dX8_firstUnlike_61 : decode cX8_firstUnlike 61 = .ok (.iload_n 2, 1) := by decide +kernel
theorem dX8_firstUnlike_62 : decode cX8_firstUnlike 62 = .ok (.invokevirtual 367, 3) := by decide +kernel
theorem dX8_firstUnlike_65 : decode cX8_firstUnlike 65 = .ok (.ifCond .eq 32, 3) := by decide +kernel
theorem dX8_firstUnlike_68 : decode cX8_firstUnlike 68 = .ok (.iload 5, 2) := by decide +kernel
theorem dX8_firstUnlike_70 : decode cX8_firstUnlike 70 = .ok (.iload_n 3, 1) := by decide +kernel
theorem dX8_firstUnlike_71 : decode cX8_firstUnlike 71 = .ok (.if_icmp .ge 18, 3) := by decide +kernel
theorem dX8_firstUnlike_74 : decode cX8_firstUnlike 74 = .ok (.aload_n 0, 1) := by decide +kernel
theorem dX8_firstUnlike_75 : decode cX8_firstUnlike 75 = .ok (.getfield 16, 3) := by decide +kernel
theorem dX8_firstUnlike_78 : decode cX8_firstUnlike 78 = .ok (.getfield 319, 3) := by decide +kernel
theorem dX8_firstUnlike_81 : decode cX8_firstUnlike 81 = .ok (.iload 5, 2) := by decide +kernel
theorem dX8_firstUnlike_83 : decode cX8_firstUnlike 83 = .ok (.iaload, 1) := by decide +kernel
theorem dX8_firstUnlike_84 : decode cX8_firstUnlike 84 = .ok (.iload 7, 2) := by decide +kernel
theorem dX8_firstUnlike_86 : decode cX8_firstUnlike 86 = .ok (.if_icmp .eq 8, 3) := by decide +kernel
theorem dX8_firstUnlike_89 : decode cX8_firstUnlike 89 = .ok (.iconst 1, 1) := by decide +kernel
theorem dX8_firstUnlike_90 : decode cX8_firstUnlike 90 = .ok (.iload 5, 2) := by decide +kernel
theorem dX8_firstUnlike_92 : decode cX8_firstUnlike 92 = .ok (.iadd, 1) := by decide +kernel
theorem dX8_firstUnlike_93 : decode cX8_firstUnlike 93 = .ok (.ireturn, 1) := by decide +kernel
theorem dX8_firstUnlike_94 : decode cX8_firstUnlike 94 = .ok (.iinc 5 1, 3) := by decide +kernel
theorem dX8_firstUnlike_97 : decode cX8_firstUnlike 97 = .ok (.iinc 6 1, 3) := by decide +kernel
theorem dX8_firstUnlike_100 : decode cX8_firstUnlike 100 = .ok (.goto (-85), 3) := by decide +kernel
theorem dX8_firstUnlike_103 : decode cX8_firstUnlike 103 = .ok (.iload_n 3, 1) := by decide +kernel
theorem dX8_firstUnlike_104 : decode cX8_firstUnlike 104 = .ok (.iload 5, 2) := by decide +kernel
theorem dX8_firstUnlike_106 : decode cX8_firstUnlike 106 = .ok (.if_icmp .le 10, 3) := by decide +kernel
theorem dX8_firstUnlike_109 : decode cX8_firstUnlike 109 = .ok (.iconst 1, 1) := by decide +kernel
theorem dX8_firstUnlike_110 : decode cX8_firstUnlike 110 = .ok (.iload 5, 2) := by decide +kernel
theorem dX8_firstUnlike_112 : decode cX8_firstUnlike 112 = .ok (.iadd, 1) := by decide +kernel
theorem dX8_firstUnlike_113 : decode cX8_firstUnlike 113 = .ok (.goto 4, 3) := by decide +kernel
theorem dX8_firstUnlike_116 : decode cX8_firstUnlike 116 = .ok (.iconst 0, 1) := by decide +kernel
theorem dX8_firstUnlike_117 : decode cX8_firstUnlike 117 = .ok (.ireturn, 1) := by decide +kernel
theorem dX9_init_0 : decode cX9_init 0 = .ok (.aload_n 0, 1) := by decide +kernel
theorem dX9_init_1 : decode cX9_init 1 = .ok (.invokespecial 1, 3) := by decide +kernel
theorem dX9_init_4 : decode cX9_init 4 = .ok (.aload_n 0, 1) := by decide +kernel
theorem dX9_init_5 : decode cX9_init 5 = .ok (.sipush 1250, 3) := by decide +kernel
theorem dX9_init_8 : decode cX9_init 8 = .ok (.newarray .int, 2) := by decide +kernel
theorem dX9_init_10 : decode cX9_init 10 = .ok (.putfield 7, 3) := by decide +kernel
theorem dX9_init_13 : decode cX9_init 13 = .ok (.aload_n 0, 1) := by decide +kernel
theorem dX9_init_14 : decode cX9_init 14 = .ok (.sipush 1250, 3) := by decide +kernel
theorem dX9_init_17 : decode cX9_init 17 = .ok (.newarray .int, 2) := by decide +kernel
theorem dX9_init_19 : decode cX9_init 19 = .ok (.putfield 13, 3) := by decide +kernel
theorem dX9_init_22 : decode cX9_init 22 = .ok (.aload_n 0, 1) := by decide +kernel
theorem dX9_init_23 : decode cX9_init 23 = .ok (.bipush 6, 2) := by decide +kernel
theorem dX9_init_25 : decode cX9_init 25 = .ok (.newarray .int, 2) := by decide +kernel
theorem dX9_init_27 : decode cX9_init 27 = .ok (.putfield 16, 3) := by decide +kernel
theorem dX9_init_30 : decode cX9_init 30 = .ok (.aload_n 0, 1) := by decide +kernel
theorem dX9_init_31 : decode cX9_init 31 = .ok (.bipush 36, 2) := by decide +kernel
theorem dX9_init_33 : decode cX9_init 33 = .ok (.newarray .int, 2) := by decide +kernel
theorem dX9_init_35 : decode cX9_init 35 = .ok (.putfield 19, 3) := by decide +kernel
theorem dX9_init_38 : decode cX9_init 38 = .ok (.aload_n 0, 1) := by decide +kernel
theorem dX9_init_39 : decode cX9_init 39 = .ok (.bipush 6, 2) := by decide +kernel
theorem dX9_init_41 : decode cX9_init 41 = .ok (.newarray .int, 2) := by decide +kernel
theorem dX9_init_43 : decode cX9_init 43 = .ok (.putfield 22, 3) := by decide +kernel
theorem dX9_init_46 : decode cX9_init 46 = .ok (.aload_n 0, 1) := by decide +kernel
theorem dX9_init_47 : decode cX9_init 47 = .ok (.iconst 2, 1) := by decide +kernel
theorem dX9_init_48 : decode cX9_init 48 = .ok (.newarray .int, 2) := by decide +kernel
theorem dX9_init_50 : decode cX9_init 50 = .ok (.putfield 25, 3) := by decide +kernel
theorem dX9_init_53 : decode cX9_init 53 = .ok (.aload_n 0, 1) := by decide +kernel
theorem dX9_init_54 : decode cX9_init 54 = .ok (.iconst 2, 1) := by decide +kernel
theorem dX9_init_55 : decode cX9_init 55 = .ok (.newarray .int, 2) := by decide +kernel
theorem dX9_init_57 : decode cX9_init 57 = .ok (.putfield 28, 3) := by decide +kernel
theorem dX9_init_60 : decode cX9_init 60 = .ok (.aload_n 0, 1) := by decide +kernel
theorem dX9_init_61 : decode cX9_init 61 = .ok (.sipush 400, 3) := by decide +kernel
theorem dX9_init_64 : decode cX9_init 64 = .ok (.newarray .boolean, 2) := by decide +kernel
theorem dX9_init_66 : decode cX9_init 66 = .ok (.putfield 31, 3) := by decide +kernel
theorem dX9_init_69 : decode cX9_init 69 = .ok (.aload_n 0, 1) := by decide +kernel
theorem dX9_init_70 : decode cX9_init 70 = .ok (.iconst 5, 1) := by decide +kernel
theorem dX9_init_71 : decode cX9_init 71 = .ok (.newarray .int, 2) := by decide +kernel
theorem dX9_init_73 : decode cX9_init 73 = .ok (.putfield 35, 3) := by decide +kernel
theorem dX9_init_76 : decode cX9_init 76 = .ok (.aload_n 0, 1) := by decide +kernel
theorem dX9_init_77 : decode cX9_init 77 = .ok (.bipush 40, 2) := by decide +kernel
theorem dX9_init_79 : decode cX9_init 79 = .ok (.newarray .int, 2) := by decide +kernel
theorem dX9_init_81 : decode cX9_init 81 = .ok (.putfield 38, 3) := by decide +kernel
theorem dX9_init_84 : decode cX9_init 84 = .ok (.aload_n 0, 1) := by decide +kernel
theorem dX9_init_85 : decode cX9_init 85 = .ok (.iconst 4, 1) := by decide +kernel
theorem dX9_init_86 : decode cX9_init 86 = .ok (.newarray .int, 2) := by decide +kernel
theorem dX9_init_88 : decode cX9_init 88 = .ok (.putfield 41, 3) := by decide +kernel
theorem dX9_init_91 : decode cX9_init 91 = .ok (.aload_n 0, 1) := by decide +kernel
theorem dX9_init_92 : decode cX9_init 92 = .ok (.iconst 4, 1) := by decide +kernel
theorem dX9_init_93 : decode cX9_init 93 = .ok (.newarray .int, 2) := by decide +kernel
theorem dX9_init_95 : decode cX9_init 95 = .ok (.putfield 44, 3) := by decide +kernel
theorem dX9_init_98 : decode cX9_init 98 = .ok (.aload_n 0, 1) := by decide +kernel
theorem dX9_init_99 : decode cX9_init 99 = .ok (.sipush 160, 3) := by decide +kernel
theorem dX9_init_102 : decode cX9_init 102 = .ok (.newarray .int, 2) := by decide +kernel
theorem dX9_init_104 : decode cX9_init 104 = .ok (.putfield 47, 3) := by decide +kernel
theorem dX9_init_107 : decode cX9_init 107 = .ok (.aload_n 0, 1) := by decide +kernel
theorem dX9_init_108 : decode cX9_init 108 = .ok (.bipush 40, 2) := by decide +kernel
theorem dX9_init_110 : decode cX9_init 110 = .ok (.newarray .int, 2) := by decide +kernel
theorem dX9_init_112 : decode cX9_init 112 = .ok (.putfield 50, 3) := by decide +kernel
theorem dX9_init_115 : decode cX9_init 115 = .ok (.aload_n 0, 1) := by decide +kernel
theorem dX9_init_116 : decode cX9_init 116 = .ok (.getfield 7, 3) := by decide +kernel
theorem dX9_init_119 : decode cX9_init 119 = .ok (.iconst 4, 1) := by decide +kernel
theorem dX9_init_120 : decode cX9_init 120 = .ok (.iconst 1, 1) := by decide +kernel
theorem dX9_init_121 : decode cX9_init 121 = .ok (.iastore, 1) := by decide +kernel
theorem dX9_init_122 : decode cX9_init 122 = .ok (.aload_n 0, 1) := by decide +kernel
theorem dX9_init_123 : decode cX9_init 123 = .ok (.getfield 7, 3) := by decide +kernel
theorem dX9_init_126 : decode cX9_init 126 = .ok (.iconst 5, 1) := by decide +kernel
theorem dX9_init_127 : decode cX9_init 127 = .ok (.bipush 20, 2) := by decide +kernel
theorem dX9_init_129 : decode cX9_init 129 = .ok (.iastore, 1) := by decide +kernel
theorem dX9_init_130 : decode cX9_init 130 = .ok (.aload_n 0, 1) := by decide +kernel
theorem dX9_init_131 : decode cX9_init 131 = .ok (.getfield 7, 3) := by decide +kernel
theorem dX9_init_134 : decode cX9_init 134 = .ok (.bipush 6, 2) := by decide +kernel
theorem dX9_init_136 : decode cX9_init 136 = .ok (.iconst 2, 1) := by decide +kernel
theorem dX9_init_137 : decode cX9_init 137 = .ok (.iastore, 1) := by decide +kernel
theorem dX9_init_138 : decode cX9_init 138 = .ok (.aload_n 0, 1) := by decide +kernel
theorem dX9_init_139 : decode cX9_init 139 = .ok (.getfield 7, 3) := by decide +kernel
theorem dX9_init_142 : decode cX9_init 142 = .ok (.bipush 8, 2) := by decide +kernel
theorem dX9_init_144 : decode cX9_init 144 = .ok (.iconst 1, 1) := by decide +kernel
theorem dX9_init_145 : decode cX9_init 145 = .ok (.iastore, 1) := by decide +kernel
theorem dX9_init_146 : decode cX9_init 146 = .ok (.iconst 0, 1) := by decide +kernel
theorem dX9_init_147 : decode cX9_init 147 = .ok (.istore_n 1, 1) := by decide +kernel
theorem dX9_init_148 : decode cX9_init 148 = .ok (.iload_n 1, 1) := by decide +kernel
theorem dX9_init_149 : decode cX9_init 149 = .ok (.bipush 6, 2) := by decide +kernel
theorem dX9_init_151 : decode cX9_init 151 = .ok (.if_icmp .ge 19, 3) := by decide +kernel
theorem dX9_init_154 : decode cX9_init 154 = .ok (.aload_n 0, 1) := by decide +kernel
theorem dX9_init_155 : decode cX9_init 155 = .ok (.getfield 7, 3) := by decide +kernel
theorem dX9_init_158 : decode cX9_init 158 = .ok (.bipush 60, 2) := by decide +kernel
theorem dX9_init_160 : decode cX9_init 160 = .ok (.iload_n 1, 1) := by decide +kernel
theorem dX9_init_161 : decode cX9_init 161 = .ok (.iadd, 1) := by decide +kernel
theorem dX9_init_162 : decode cX9_init 162 = .ok (.iconst (-1), 1) := by decide +kernel
theorem dX9_init_163 : decode cX9_init 163 = .ok (.iastore, 1) := by decide +kernel
theorem dX9_init_164 : decode cX9_init 164 = .ok (.iinc 1 1, 3) := by decide +kernel
theorem dX9_init_167 : decode cX9_init 167 = .ok (.goto (-19), 3) := by decide +kernel
theorem dX9_init_170 : decode cX9_init 170 = .ok (.return_, 1) := by decide +kernel
theorem dX9_finds_0 : decode cX9_finds 0 = .ok (.aload_n 0, 1) := by decide +kernel
theorem dX9_finds_1 : decode cX9_finds 1 = .ok (.getfield 16, 3) := by decide +kernel
theorem dX9_finds_4 : decode cX9_finds 4 = .ok (.iload_n 1, 1) := by decide +kernel
theorem dX9_finds_5 : decode cX9_finds 5 = .ok (.dup2, 1) := by decide +kernel
theorem dX9_finds_6 : decode cX9_finds 6 = .ok (.iaload, 1) := by decide +kernel
theorem dX9_finds_7 : decode cX9_finds 7 = .ok (.iconst 1, 1) := by decide +kernel
theorem dX9_finds_8 : decode cX9_finds 8 = .ok (.iadd, 1) := by decide +kernel
theorem dX9_finds_9 : decode cX9_finds 9 = .ok (.iastore, 1) := by decide +kernel
theorem dX9_finds_10 : decode cX9_finds 10 = .ok (.ldc 53, 2) := by decide +kernel
theorem dX9_finds_12 : decode cX9_finds 12 = .ok (.iload_n 1, 1) := by decide +kernel
theorem dX9_finds_13 : decode cX9_finds 13 = .ok (.isub, 1) := by decide +kernel
theorem dX9_finds_14 : decode cX9_finds 14 = .ok (.ireturn, 1) := by decide +kernel
theorem dX9_in_0 : decode cX9_in 0 = .ok (.lload_n 0, 1) := by decide +kernel
theorem dX9_in_1 : decode cX9_in 1 = .ok (.lload_n 2, 1) := by decide +kernel
theorem dX9_in_2 : decode cX9_in 2 = .ok (.lcmp, 1) := by decide +kernel
theorem dX9_in_3 : decode cX9_in 3 = .ok (.ifCond .lt 14, 3) := by decide +kernel
theorem dX9_in_6 : decode cX9_in 6 = .ok (.lload_n 0, 1) := by decide +kernel
theorem dX9_in_7 : decode cX9_in 7 = .ok (.lload 4, 2) := by decide +kernel
theorem dX9_in_9 : decode cX9_in 9 = .ok (.lcmp, 1) := by decide +kernel
theorem dX9_in_10 : decode cX9_in 10 = .ok (.ifCond .gt 7, 3) := by decide +kernel
theorem dX9_in_13 : decode cX9_in 13 = .ok (.iconst 1, 1) := by decide +kernel
theorem dX9_in_14 : decode cX9_in 14 = .ok (.goto 4, 3) := by decide +kernel
theorem dX9_in_17 : decode cX9_in 17 = .ok (.iconst 0, 1) := by decide +kernel
theorem dX9_in_18 : decode cX9_in 18 = .ok (.ireturn, 1) := by decide +kernel
set_option maxRecDepth 20000 in
theorem ggX9_isPlace_X9_in : GoodIn wsX9_isPlace wsX9_in := goodIn_r _ [5] (by decide +kernel) (by decide +kernel)
set_option maxRecDepth 20000 in
theorem gX9_isPlace_X9_in : GoodIn wsX9_isPlace (va_wsS RX9 54 yX9_in wsX9_in) := goodIn_app (goodIn_of _ (by decide +kernel)) ggX9_isPlace_X9_in
theorem dX9_isPlace_0 : decode cX9_isPlace 0 = .ok (.iload_n 1, 1) := by decide +kernel
theorem dX9_isPlace_1 : decode cX9_isPlace 1 = .ok (.i2l, 1) := by decide +kernel
theorem dX9_isPlace_2 : decode cX9_isPlace 2 = .ok (.lconst 0, 1) := by decide +kernel
theorem dX9_isPlace_3 : decode cX9_isPlace 3 = .ok (.aload_n 0, 1) := by decide +kernel
theorem dX9_isPlace_4 : decode cX9_isPlace 4 = .ok (.getfield 7, 3) := by decide +kernel
theorem dX9_isPlace_7 : decode cX9_isPlace 7 = .ok (.iconst 1, 1) := by decide +kernel
theorem dX9_isPlace_8 : decode cX9_isPlace 8 = .ok (.iaload, 1) := by decide +kernel
theorem dX9_isPlace_9 : decode cX9_isPlace 9 = .ok (.iconst 1, 1) := by decide +kernel
theorem dX9_isPlace_10 : decode cX9_isPlace 10 = .ok (.isub, 1) := by decide +kernel
theorem dX9_isPlace_11 : decode cX9_isPlace 11 = .ok (.i2l, 1) := by decide +kernel
theorem dX9_isPlace_12 : decode cX9_isPlace 12 = .ok (.invokestatic 54, 3) := by decide +kernel
theorem dX9_isPlace_15 : decode cX9_isPlace 15 = .ok (.ireturn, 1) := by decide +kernel
set_option maxRecDepth 20000 in
theorem ggX9_areTwo_X9_isPlace : GoodIn wsX9_areTwo wsX9_isPlace := goodIn_r _ [5, 6, 7, 8, 4, 9, 10, 11, 12, 13, 14, 15, 16, 17, 18, 19, 20, 21, 22, 23, 24, 25, 26, 27, 28, 29, 30, 31, 32] (by decide +kernel) (by decide +kernel)
set_option maxRecDepth 20000 in
theorem gX9_areTwo_X9_isPlace : GoodIn wsX9_areTwo (wsV RX9 58 RX9 yX9_isPlace wsX9_isPlace) := goodIn_app (goodIn_of _ (by decide +kernel)) ggX9_areTwo_X9_isPlace
theorem dX9_areTwo_0 : decode cX9_areTwo 0 = .ok (.aload_n 0, 1) := by decide +kernel
theorem dX9_areTwo_1 : decode cX9_areTwo 1 = .ok (.iload_n 1, 1) := by decide +kernel
theorem dX9_areTwo_2 : decode cX9_areTwo 2 = .ok (.invokevirtual 58, 3) := by decide +kernel
theorem dX9_areTwo_5 : decode cX9_areTwo 5 = .ok (.ifCond .eq 20, 3) := by decide +kernel
theorem dX9_areTwo_8 : decode cX9_areTwo 8 = .ok (.aload_n 0, 1) := by decide +kernel
theorem dX9_areTwo_9 : decode cX9_areTwo 9 = .ok (.iload_n 2, 1) := by decide +kernel
theorem dX9_areTwo_10 : decode cX9_areTwo 10 = .ok (.invokevirtual 58, 3) := by decide +kernel
theorem dX9_areTwo_13 : decode cX9_areTwo 13 = .ok (.ifCond .eq 12, 3) := by decide +kernel
theorem dX9_areTwo_16 : decode cX9_areTwo 16 = .ok (.iload_n 1, 1) := by decide +kernel
theorem dX9_areTwo_17 : decode cX9_areTwo 17 = .ok (.iload_n 2, 1) := by decide +kernel
theorem dX9_areTwo_18 : decode cX9_areTwo 18 = .ok (.if_icmp .eq 7, 3) := by decide +kernel
theorem dX9_areTwo_21 : decode cX9_areTwo 21 = .ok (.iconst 1, 1) := by decide +kernel
theorem dX9_areTwo_22 : decode cX9_areTwo 22 = .ok (.goto 4, 3) := by decide +kernel
theorem dX9_areTwo_25 : decode cX9_areTwo 25 = .ok (.iconst 0, 1) := by decide +kernel
theorem dX9_areTwo_26 : decode cX9_areTwo 26 = .ok (.ireturn, 1) := by decide +kernel
set_option maxRecDepth 20000 in
theorem ggX9_areFt_X9_areTwo : GoodIn wsX9_areFt wsX9_areTwo := goodIn_r _ [5, 6, 7, 8, 4, 9, 10, 11, 12, 13, 14, 15, 16, 17, 18, 19, 20, 21, 22, 23, 24, 25, 26, 27, 28, 29, 30, 31, 32, 33, 34, 35, 36] (by decide +kernel) (by decide +kernel)
set_option maxRecDepth 20000 in
theorem gX9_areFt_X9_areTwo : GoodIn wsX9_areFt (wsV RX9 62 RX9 yX9_areTwo wsX9_areTwo) := goodIn_app (goodIn_of _ (by decide +kernel)) ggX9_areFt_X9_areTwo
theorem dX9_areFt_0 : decode cX9_areFt 0 = .ok (.iload_n 1, 1) := by decide +kernel
theorem dX9_areFt_1 : decode cX9_areFt 1 = .ok (.ifCond .lt 22, 3) := by decide +kernel
theorem dX9_areFt_4 : decode cX9_areFt 4 = .ok (.aload_n 0, 1) := by decide +kernel
theorem dX9_areFt_5 : decode cX9_areFt 5 = .ok (.iload_n 1, 1) := by decide +kernel
theorem dX9_areFt_6 : decode cX9_areFt 6 = .ok (.bipush 10, 2) := by decide +kernel
theorem dX9_areFt_8 : decode cX9_areFt 8 = .ok (.idiv, 1) := by decide +kernel
theorem dX9_areFt_9 : decode cX9_areFt 9 = .ok (.iload_n 1, 1) := by decide +kernel
theorem dX9_areFt_10 : decode cX9_areFt 10 = .ok (.bipush 10, 2) := by decide +kernel
theorem dX9_areFt_12 : decode cX9_areFt 12 = .ok (.irem, 1) := by decide +kernel
theorem dX9_areFt_13 : decode cX9_areFt 13 = .ok (.invokevirtual 62, 3) := by decide +kernel
theorem dX9_areFt_16 : decode cX9_areFt 16 = .ok (.ifCond .eq 7, 3) := by decide +kernel
theorem dX9_areFt_19 : decode cX9_areFt 19 = .ok (.iconst 1, 1) := by decide +kernel
theorem dX9_areFt_20 : decode cX9_areFt 20 = .ok (.goto 4, 3) := by decide +kernel
theorem dX9_areFt_23 : decode cX9_areFt 23 = .ok (.iconst 0, 1) := by decide +kernel
theorem dX9_areFt_24 : decode cX9_areFt 24 = .ok (.ireturn, 1) := by decide +kernel
set_option maxRecDepth 20000 in
theorem ggX9_isPact_X9_in : GoodIn wsX9_isPact wsX9_in := goodIn_r _ [5] (by decide +kernel) (by decide +kernel)
set_option maxRecDepth 20000 in
theorem gX9_isPact_X9_in : GoodIn wsX9_isPact (va_wsS RX9 54 yX9_in wsX9_in) := goodIn_app (goodIn_of _ (by decide +kernel)) ggX9_isPact_X9_in
theorem dX9_isPact_0 : decode cX9_isPact 0 = .ok (.iload_n 0, 1) := by decide +kernel
theorem dX9_isPact_1 : decode cX9_isPact 1 = .ok (.i2l, 1) := by decide +kernel
theorem dX9_isPact_2 : decode cX9_isPact 2 = .ok (.lconst 0, 1) := by decide +kernel
theorem dX9_isPact_3 : decode cX9_isPact 3 = .ok (.ldc2_w 66, 3) := by decide +kernel
theorem dX9_isPact_6 : decode cX9_isPact 6 = .ok (.invokestatic 54, 3) := by decide +kernel
theorem dX9_isPact_9 : decode cX9_isPact 9 = .ok (.ireturn, 1) := by decide +kernel
set_option maxRecDepth 20000 in
theorem ggX9_isWord_X9_in : GoodIn wsX9_isWord wsX9_in := goodIn_r _ [5] (by decide +kernel) (by decide +kernel)
set_option maxRecDepth 20000 in
theorem gX9_isWord_X9_in : GoodIn wsX9_isWord (va_wsS RX9 54 yX9_in wsX9_in) := goodIn_app (goodIn_of _ (by decide +kernel)) ggX9_isWord_X9_in
theorem dX9_isWord_0 : decode cX9_isWord 0 = .ok (.iload_n 1, 1) := by decide +kernel
theorem dX9_isWord_1 : decode cX9_isWord 1 = .ok (.i2l, 1) := by decide +kernel
theorem dX9_isWord_2 : decode cX9_isWord 2 = .ok (.lconst 0, 1) := by decide +kernel
theorem dX9_isWord_3 : decode cX9_isWord 3 = .ok (.aload_n 0, 1) := by decide +kernel
theorem dX9_isWord_4 : decode cX9_isWord 4 = .ok (.getfield 7, 3) := by decide +kernel
theorem dX9_isWord_7 : decode cX9_isWord 7 = .ok (.iconst 2, 1) := by decide +kernel
theorem dX9_isWord_8 : decode cX9_isWord 8 = .ok (.iaload, 1) := by decide +kernel
theorem dX9_isWord_9 : decode cX9_isWord 9 = .ok (.iconst 1, 1) := by decide +kernel
theorem dX9_isWord_10 : decode cX9_isWord 10 = .ok (.isub, 1) := by decide +kernel
theorem dX9_isWord_11 : decode cX9_isWord 11 = .ok (.i2l, 1) := by decide +kernel
theorem dX9_isWord_12 : decode cX9_isWord 12 = .ok (.invokestatic 54, 3) := by decide +kernel
theorem dX9_isWord_15 : decode cX9_isWord 15 = .ok (.ireturn, 1) := by decide +kernel
theorem dX9_wo_0 : decode cX9_wo 0 = .ok (.aload_n 0, 1) := by decide +kernel
theorem dX9_wo_1 : decode cX9_wo 1 = .ok (.getfield 7, 3) := by decide +kernel
theorem dX9_wo_4 : decode cX9_wo 4 = .ok (.sipush 610, 3) := by decide +kernel
theorem dX9_wo_7 : decode cX9_wo 7 = .ok (.bipush 8, 2) := by decide +kernel
theorem dX9_wo_9 : decode cX9_wo 9 = .ok (.iload_n 1, 1) := by decide +kernel
theorem dX9_wo_10 : decode cX9_wo 10 = .ok (.imul, 1) := by decide +kernel
theorem dX9_wo_11 : decode cX9_wo 11 = .ok (.iadd, 1) := by decide +kernel
theorem dX9_wo_12 : decode cX9_wo 12 = .ok (.iload_n 2, 1) := by decide +kernel
theorem dX9_wo_13 : decode cX9_wo 13 = .ok (.iadd, 1) := by decide +kernel
theorem dX9_wo_14 : decode cX9_wo 14 = .ok (.iaload, 1) := by decide +kernel
theorem dX9_wo_15 : decode cX9_wo 15 = .ok (.ireturn, 1) := by decide +kernel
set_option maxRecDepth 20000 in
theorem ggX9_place_X9_finds : GoodIn wsX9_place wsX9_finds := goodIn_r _ [6, 7, 8, 9, 10, 11, 12, 13, 14, 15, 16, 17, 18, 19, 20, 21, 22, 23, 24, 25, 26, 27, 28, 29, 30, 31] (by decide +kernel) (by decide +kernel)
set_option maxRecDepth 20000 in
theorem gX9_place_X9_finds : GoodIn wsX9_place (wsV RX9 68 RX9 yX9_finds wsX9_finds) := goodIn_app (goodIn_of _ (by decide +kernel)) ggX9_place_X9_finds
theorem dX9_place_0 : decode cX9_place 0 = .ok (.aload_n 0, 1) := by decide +kernel
theorem dX9_place_1 : decode cX9_place 1 = .ok (.getfield 7, 3) := by decide +kernel
theorem dX9_place_4 : decode cX9_place 4 = .ok (.iconst 1, 1) := by decide +kernel
theorem dX9_place_5 : decode cX9_place 5 = .ok (.iaload, 1) := by decide +kernel
theorem dX9_place_6 : decode cX9_place 6 = .ok (.bipush 6, 2) := by decide +kernel
theorem dX9_place_8 : decode cX9_place 8 = .ok (.if_icmp .ne 9, 3) := by decide +kernel
theorem dX9_place_11 : decode cX9_place 11 = .ok (.aload_n 0, 1) := by decide +kernel
theorem dX9_place_12 : decode cX9_place 12 = .ok (.iconst 4, 1) := by decide +kernel
theorem dX9_place_13 : decode cX9_place 13 = .ok (.invokevirtual 68, 3) := by decide +kernel
theorem dX9_place_16 : decode cX9_place 16 = .ok (.ireturn, 1) := by decide +kernel
theorem dX9_place_17 : decode cX9_place 17 = .ok (.aload_n 0, 1) := by decide +kernel
theorem dX9_place_18 : decode cX9_place 18 = .ok (.getfield 7, 3) := by decide +kernel
theorem dX9_place_21 : decode cX9_place 21 = .ok (.iconst 1, 1) := by decide +kernel
theorem dX9_place_22 : decode cX9_place 22 = .ok (.dup2, 1) := by decide +kernel
theorem dX9_place_23 : decode cX9_place 23 = .ok (.iaload, 1) := by decide +kernel
theorem dX9_place_24 : decode cX9_place 24 = .ok (.iconst 1, 1) := by decide +kernel
theorem dX9_place_25 : decode cX9_place 25 = .ok (.iadd, 1) := by decide +kernel
theorem dX9_place_26 : decode cX9_place 26 = .ok (.iastore, 1) := by decide +kernel
theorem dX9_place_27 : decode cX9_place 27 = .ok (.aload_n 0, 1) := by decide +kernel
theorem dX9_place_28 : decode cX9_place 28 = .ok (.getfield 7, 3) := by decide +kernel
theorem dX9_place_31 : decode cX9_place 31 = .ok (.iconst 1, 1) := by decide +kernel
theorem dX9_place_32 : decode cX9_place 32 = .ok (.iaload, 1) := by decide +kernel
theorem dX9_place_33 : decode cX9_place 33 = .ok (.iconst 1, 1) := by decide +kernel
theorem dX9_place_34 : decode cX9_place 34 = .ok (.isub, 1) := by decide +kernel
theorem dX9_place_35 : decode cX9_place 35 = .ok (.ireturn, 1) := by decide +kernel
set_option maxRecDepth 20000 in
theorem ggX9_near_X9_areTwo : GoodIn wsX9_near wsX9_areTwo := goodIn_r _ [7, 8, 9, 10, 6, 11, 2, 12, 13, 14, 21, 22, 23, 24, 25, 26, 27, 28, 29, 30, 31, 32, 33, 34, 35, 36, 37, 38, 39, 40, 41, 42, 43] (by decide +kernel) (by decide +kernel)
set_option maxRecDepth 20000 in
theorem gX9_near_X9_areTwo : GoodIn wsX9_near (wsV RX9 62 RX9 yX9_areTwo wsX9_areTwo) := goodIn_app (goodIn_of _ (by decide +kernel)) ggX9_near_X9_areTwo
set_option maxRecDepth 20000 in
theorem ggX9_near_X9_in : GoodIn wsX9_near wsX9_in := goodIn_r _ [14] (by decide +kernel) (by decide +kernel)
set_option maxRecDepth 20000 in
theorem gX9_near_X9_in : GoodIn wsX9_near (va_wsS RX9 54 yX9_in wsX9_in) := goodIn_app (goodIn_of _ (by decide +kernel)) ggX9_near_X9_in
set_option maxRecDepth 20000 in
theorem ggX9_near_X9_finds : GoodIn wsX9_near wsX9_finds := goodIn_r _ [18, 19, 20, 21, 22, 23, 24, 25, 26, 27, 28, 29, 30, 31, 32, 33, 34, 35, 36, 37, 38, 39, 40, 41, 42, 43] (by decide +kernel) (by decide +kernel)
set_option maxRecDepth 20000 in
theorem gX9_near_X9_finds : GoodIn wsX9_near (wsV RX9 68 RX9 yX9_finds wsX9_finds) := goodIn_app (goodIn_of _ (by decide +kernel)) ggX9_near_X9_finds
theorem dX9_near_0 : decode cX9_near 0 = .ok (.aload_n 0, 1) := by decide +kernel
theorem dX9_near_1 : decode cX9_near 1 = .ok (.iload_n 1, 1) := by decide +kernel
theorem dX9_near_2 : decode cX9_near 2 = .ok (.iload_n 2, 1) := by decide +kernel
theorem dX9_near_3 : decode cX9_near 3 = .ok (.invokevirtual 62, 3) := by decide +kernel
theorem dX9_near_6 : decode cX9_near 6 = .ok (.ifCond .eq 15, 3) := by decide +kernel
theorem dX9_near_9 : decode cX9_near 9 = .ok (.iload_n 3, 1) := by decide +kernel
theorem dX9_near_10 : decode cX9_near 10 = .ok (.i2l, 1) := by decide +kernel
theorem dX9_near_11 : decode cX9_near 11 = .ok (.lconst 0, 1) := by decide +kernel
theorem dX9_near_12 : decode cX9_near 12 = .ok (.ldc2_w 72, 3) := by decide +kernel
theorem dX9_near_15 : decode cX9_near 15 = .ok (.invokestatic 54, 3) := by decide +kernel
theorem dX9_near_18 : decode cX9_near 18 = .ok (.ifCond .ne 9, 3) := by decide +kernel
theorem dX9_near_21 : decode cX9_near 21 = .ok (.aload_n 0, 1) := by decide +kernel
theorem dX9_near_22 : decode cX9_near 22 = .ok (.iconst 1, 1) := by decide +kernel
theorem dX9_near_23 : decode cX9_near 23 = .ok (.invokevirtual 68, 3) := by decide +kernel
theorem dX9_near_26 : decode cX9_near 26 = .ok (.ireturn, 1) := by decide +kernel
theorem dX9_near_27 : decode cX9_near 27 = .ok (.aload_n 0, 1) := by decide +kernel
theorem dX9_near_28 : decode cX9_near 28 = .ok (.getfield 7, 3) := by decide +kernel
theorem dX9_near_31 : decode cX9_near 31 = .ok (.bipush 20, 2) := by decide +kernel
theorem dX9_near_33 : decode cX9_near 33 = .ok (.bipush 6, 2) := by decide +kernel
theorem dX9_near_35 : decode cX9_near 35 = .ok (.iload_n 1, 1) := by decide +kernel
theorem dX9_near_36 : decode cX9_near 36 = .ok (.imul, 1) := by decide +kernel
theorem dX9_near_37 : decode cX9_near 37 = .ok (.iadd, 1) := by decide +kernel
theorem dX9_near_38 : decode cX9_near 38 = .ok (.iload_n 2, 1) := by decide +kernel
theorem dX9_near_39 : decode cX9_near 39 = .ok (.iadd, 1) := by decide +kernel
theorem dX9_near_40 : decode cX9_near 40 = .ok (.iaload, 1) := by decide +kernel
theorem dX9_near_41 : decode cX9_near 41 = .ok (.istore 4, 2) := by decide +kernel
theorem dX9_near_43 : decode cX9_near 43 = .ok (.aload_n 0, 1) := by decide +kernel
theorem dX9_near_44 : decode cX9_near 44 = .ok (.getfield 7, 3) := by decide +kernel
theorem dX9_near_47 : decode cX9_near 47 = .ok (.bipush 20, 2) := by decide +kernel
theorem dX9_near_49 : decode cX9_near 49 = .ok (.bipush 6, 2) := by decide +kernel
theorem dX9_near_51 : decode cX9_near 51 = .ok (.iload_n 1, 1) := by decide +kernel
theorem dX9_near_52 : decode cX9_near 52 = .ok (.imul, 1) := by decide +kernel
theorem dX9_near_53 : decode cX9_near 53 = .ok (.iadd, 1) := by decide +kernel
theorem dX9_near_54 : decode cX9_near 54 = .ok (.iload_n 2, 1) := by decide +kernel
theorem dX9_near_55 : decode cX9_near 55 = .ok (.iadd, 1) := by decide +kernel
theorem dX9_near_56 : decode cX9_near 56 = .ok (.iload_n 3, 1) := by decide +kernel
theorem dX9_near_57 : decode cX9_near 57 = .ok (.iastore, 1) := by decide +kernel
theorem dX9_near_58 : decode cX9_near 58 = .ok (.aload_n 0, 1) := by decide +kernel
theorem dX9_near_59 : decode cX9_near 59 = .ok (.getfield 7, 3) := by decide +kernel
theorem dX9_near_62 : decode cX9_near 62 = .ok (.bipush 20, 2) := by decide +kernel
theorem dX9_near_64 : decode cX9_near 64 = .ok (.bipush 6, 2) := by decide +kernel
theorem dX9_near_66 : decode cX9_near 66 = .ok (.iload_n 2, 1) := by decide +kernel
theorem dX9_near_67 : decode cX9_near 67 = .ok (.imul, 1) := by decide +kernel
theorem dX9_near_68 : decode cX9_near 68 = .ok (.iadd, 1) := by decide +kernel
theorem dX9_near_69 : decode cX9_near 69 = .ok (.iload_n 1, 1) := by decide +kernel
theorem dX9_near_70 : decode cX9_near 70 = .ok (.iadd, 1) := by decide +kernel
theorem dX9_near_71 : decode cX9_near 71 = .ok (.iload_n 3, 1) := by decide +kernel
theorem dX9_near_72 : decode cX9_near 72 = .ok (.iastore, 1) := by decide +kernel
theorem dX9_near_73 : decode cX9_near 73 = .ok (.iload 4, 2) := by decide +kernel
theorem dX9_near_75 : decode cX9_near 75 = .ok (.ireturn, 1) := by decide +kernel
theorem dX9_findWays_0 : decode cX9_findWays 0 = .ok (.iconst 0, 1) := by decide +kernel
theorem dX9_findWays_1 : decode cX9_findWays 1 = .ok (.istore_n 1, 1) := by decide +kernel
theorem dX9_findWays_2 : decode cX9_findWays 2 = .ok (.iload_n 1, 1) := by decide +kernel
theorem dX9_findWays_3 : decode cX9_findWays 3 = .ok (.bipush 36, 2) := by decide +kernel
theorem dX9_findWays_5 : decode cX9_findWays 5 = .ok (.if_icmp .ge 57, 3) := by decide +kernel
theorem dX9_findWays_8 : decode cX9_findWays 8 = .ok (.aload_n 0, 1) := by decide +kernel
theorem dX9_findWays_9 : decode cX9_findWays 9 = .ok (.getfield 19, 3) := by decide +kernel
theorem dX9_findWays_12 : decode cX9_findWays 12 = .ok (.iload_n 1, 1) := by decide +kernel
theorem dX9_findWays_13 : decode cX9_findWays 13 = .ok (.iload_n 1, 1) := by decide +kernel
theorem dX9_findWays_14 : decode cX9_findWays 14 = .ok (.bipush 6, 2) := by decide +kernel
theorem dX9_findWays_16 : decode cX9_findWays 16 = .ok (.idiv, 1) := by decide +kernel
theorem dX9_findWays_17 : decode cX9_findWays 17 = .ok (.iload_n 1, 1) := by decide +kernel
theorem dX9_findWays_18 : decode cX9_findWays 18 = .ok (.bipush 6, 2) := by decide +kernel
theorem dX9_findWays_20 : decode cX9_findWays 20 = .ok (.irem, 1) := by decide +kernel
theorem dX9_findWays_21 : decode cX9_findWays 21 = .ok (.if_icmp .ne 7, 3) := by decide +kernel
theorem dX9_findWays_24 : decode cX9_findWays 24 = .ok (.iconst 0, 1) := by decide +kernel
theorem dX9_findWays_25 : decode cX9_findWays 25 = .ok (.goto 30, 3) := by decide +kernel
theorem dX9_findWays_28 : decode cX9_findWays 28 = .ok (.aload_n 0, 1) := by decide +kernel
theorem dX9_findWays_29 : decode cX9_findWays 29 = .ok (.getfield 7, 3) := by decide +kernel
theorem dX9_findWays_32 : decode cX9_findWays 32 = .ok (.bipush 20, 2) := by decide +kernel
theorem dX9_findWays_34 : decode cX9_findWays 34 = .ok (.iload_n 1, 1) := by decide +kernel
theorem dX9_findWays_35 : decode cX9_findWays 35 = .ok (.iadd, 1) := by decide +kernel
theorem dX9_findWays_36 : decode cX9_findWays 36 = .ok (.iaload, 1) := by decide +kernel
theorem dX9_findWays_37 : decode cX9_findWays 37 = .ok (.ifCond .le 15, 3) := by decide +kernel
theorem dX9_findWays_40 : decode cX9_findWays 40 = .ok (.aload_n 0, 1) := by decide +kernel
theorem dX9_findWays_41 : decode cX9_findWays 41 = .ok (.getfield 7, 3) := by decide +kernel
theorem dX9_findWays_44 : decode cX9_findWays 44 = .ok (.bipush 20, 2) := by decide +kernel
theorem dX9_findWays_46 : decode cX9_findWays 46 = .ok (.iload_n 1, 1) := by decide +kernel
theorem dX9_findWays_47 : decode cX9_findWays 47 = .ok (.iadd, 1) := by decide +kernel
theorem dX9_findWays_48 : decode cX9_findWays 48 = .ok (.iaload, 1) := by decide +kernel
theorem dX9_findWays_49 : decode cX9_findWays 49 = .ok (.goto 6, 3) := by decide +kernel
theorem dX9_findWays_52 : decode cX9_findWays 52 = .ok (.sipush 10000, 3) := by decide +kernel
theorem dX9_findWays_55 : decode cX9_findWays 55 = .ok (.iastore, 1) := by decide +kernel
theorem dX9_findWays_56 : decode cX9_findWays 56 = .ok (.iinc 1 1, 3) := by decide +kernel
theorem dX9_findWays_59 : decode cX9_findWays 59 = .ok (.goto (-57), 3) := by decide +kernel
theorem dX9_findWays_62 : decode cX9_findWays 62 = .ok (.iconst 0, 1) := by decide +kernel
theorem dX9_findWays_63 : decode cX9_findWays 63 = .ok (.istore_n 1, 1) := by decide +kernel
theorem dX9_findWays_64 : decode cX9_findWays 64 = .ok (.iload_n 1, 1) := by decide +kernel
theorem dX9_findWays_65 : decode cX9_findWays 65 = .ok (.bipush 6, 2) := by decide +kernel
theorem dX9_findWays_67 : decode cX9_findWays 67 = .ok (.if_icmp .ge 79, 3) := by decide +kernel
theorem dX9_findWays_70 : decode cX9_findWays 70 = .ok (.iconst 0, 1) := by decide +kernel
theorem dX9_findWays_71 : decode cX9_findWays 71 = .ok (.istore_n 2, 1) := by decide +kernel
theorem dX9_findWays_72 : decode cX9_findWays 72 = .ok (.iload_n 2, 1) := by decide +kernel
theorem dX9_findWays_73 : decode cX9_findWays 73 = .ok (.bipush 36, 2) := by decide +kernel
theorem dX9_findWays_75 : decode cX9_findWays 75 = .ok (.if_icmp .ge 65, 3) := by decide +kernel
theorem dX9_findWays_78 : decode cX9_findWays 78 = .ok (.aload_n 0, 1) := by decide +kernel
theorem dX9_findWays_79 : decode cX9_findWays 79 = .ok (.getfield 19, 3) := by decide +kernel
theorem dX9_findWays_82 : decode cX9_findWays 82 = .ok (.iload_n 2, 1) := by decide +kernel
theorem dX9_findWays_83 : decode cX9_findWays 83 = .ok (.bipush 6, 2) := by decide +kernel
theorem dX9_findWays_85 : decode cX9_findWays 85 = .ok (.idiv, 1) := by decide +kernel
theorem dX9_findWays_86 : decode cX9_findWays 86 = .ok (.bipush 6, 2) := by decide +kernel
theorem dX9_findWays_88 : decode cX9_findWays 88 = .ok (.imul, 1) := by decide +kernel
theorem dX9_findWays_89 : decode cX9_findWays 89 = .ok (.iload_n 1, 1) := by decide +kernel
theorem dX9_findWays_90 : decode cX9_findWays 90 = .ok (.iadd, 1) := by decide +kernel
theorem dX9_findWays_91 : decode cX9_findWays 91 = .ok (.iaload, 1) := by decide +kernel
theorem dX9_findWays_92 : decode cX9_findWays 92 = .ok (.aload_n 0, 1) := by decide +kernel
theorem dX9_findWays_93 : decode cX9_findWays 93 = .ok (.getfield 19, 3) := by decide +kernel
theorem dX9_findWays_96 : decode cX9_findWays 96 = .ok (.bipush 6, 2) := by decide +kernel
theorem dX9_findWays_98 : decode cX9_findWays 98 = .ok (.iload_n 1, 1) := by decide +kernel
theorem dX9_findWays_99 : decode cX9_findWays 99 = .ok (.imul, 1) := by decide +kernel
theorem dX9_findWays_100 : decode cX9_findWays 100 = .ok (.iload_n 2, 1) := by decide +kernel
theorem dX9_findWays_101 : decode cX9_findWays 101 = .ok (.bipush 6, 2) := by decide +kernel
theorem dX9_findWays_103 : decode cX9_findWays 103 = .ok (.irem, 1) := by decide +kernel
theorem dX9_findWays_104 : decode cX9_findWays 104 = .ok (.iadd, 1) := by decide +kernel
theorem dX9_findWays_105 : decode cX9_findWays 105 = .ok (.iaload, 1) := by decide +kernel
theorem dX9_findWays_106 : decode cX9_findWays 106 = .ok (.iadd, 1) := by decide +kernel
theorem dX9_findWays_107 : decode cX9_findWays 107 = .ok (.istore_n 3, 1) := by decide +kernel
theorem dX9_findWays_108 : decode cX9_findWays 108 = .ok (.aload_n 0, 1) := by decide +kernel
theorem dX9_findWays_109 : decode cX9_findWays 109 = .ok (.getfield 19, 3) := by decide +kernel
theorem dX9_findWays_112 : decode cX9_findWays 112 = .ok (.iload_n 2, 1) := by decide +kernel
theorem dX9_findWays_113 : decode cX9_findWays 113 = .ok (.iload_n 3, 1) := by decide +kernel
theorem dX9_findWays_114 : decode cX9_findWays 114 = .ok (.aload_n 0, 1) := by decide +kernel
theorem dX9_findWays_115 : decode cX9_findWays 115 = .ok (.getfield 19, 3) := by decide +kernel
theorem dX9_findWays_118 : decode cX9_findWays 118 = .ok (.iload_n 2, 1) := by decide +kernel
theorem dX9_findWays_119 : decode cX9_findWays 119 = .ok (.iaload, 1) := by decide +kernel
theorem dX9_findWays_120 : decode cX9_findWays 120 = .ok (.if_icmp .ge 7, 3) := by decide +kernel
theorem dX9_findWays_123 : decode cX9_findWays 123 = .ok (.iload_n 3, 1) := by decide +kernel
theorem dX9_findWays_124 : decode cX9_findWays 124 = .ok (.goto 9, 3) := by decide +kernel
theorem dX9_findWays_127 : decode cX9_findWays 127 = .ok (.aload_n 0, 1) := by decide +kernel
theorem dX9_findWays_128 : decode cX9_findWays 128 = .ok (.getfield 19, 3) := by decide +kernel
theorem dX9_findWays_131 : decode cX9_findWays 131 = .ok (.iload_n 2, 1) := by decide +kernel
theorem dX9_findWays_132 : decode cX9_findWays 132 = .ok (.iaload, 1) := by decide +kernel
theorem dX9_findWays_133 : decode cX9_findWays 133 = .ok (.iastore, 1) := by decide +kernel
theorem dX9_findWays_134 : decode cX9_findWays 134 = .ok (.iinc 2 1, 3) := by decide +kernel
theorem dX9_findWays_137 : decode cX9_findWays 137 = .ok (.goto (-65), 3) := by decide +kernel
theorem dX9_findWays_140 : decode cX9_findWays 140 = .ok (.iinc 1 1, 3) := by decide +kernel
theorem dX9_findWays_143 : decode cX9_findWays 143 = .ok (.goto (-79), 3) := by decide +kernel
theorem dX9_findWays_146 : decode cX9_findWays 146 = .ok (.return_, 1) := by decide +kernel
set_option maxRecDepth 20000 in
theorem ggX9_wayOf_X9_findWays : GoodIn wsX9_wayOf wsX9_findWays := goodIn_r _ [6, 1, 7, 8, 9, 10, 11, 12, 13, 14, 15, 16, 17, 18, 19, 20, 21, 22, 23, 24, 25, 26, 27, 28, 29, 30] (by decide +kernel) (by decide +kernel)
set_option maxRecDepth 20000 in
theorem gX9_wayOf_X9_findWays : GoodIn wsX9_wayOf (wsV RX9 74 RX9 yX9_findWays wsX9_findWays) := goodIn_app (goodIn_of _ (by decide +kernel)) ggX9_wayOf_X9_findWays
theorem dX9_wayOf_0 : decode cX9_wayOf 0 = .ok (.aload_n 0, 1) := by decide +kernel
theorem dX9_wayOf_1 : decode cX9_wayOf 1 = .ok (.invokevirtual 74, 3) := by decide +kernel
theorem dX9_wayOf_4 : decode cX9_wayOf 4 = .ok (.aload_n 0, 1) := by decide +kernel
theorem dX9_wayOf_5 : decode cX9_wayOf 5 = .ok (.getfield 19, 3) := by decide +kernel
theorem dX9_wayOf_8 : decode cX9_wayOf 8 = .ok (.bipush 6, 2) := by decide +kernel
theorem dX9_wayOf_10 : decode cX9_wayOf 10 = .ok (.iload_n 1, 1) := by decide +kernel
theorem dX9_wayOf_11 : decode cX9_wayOf 11 = .ok (.imul, 1) := by decide +kernel
theorem dX9_wayOf_12 : decode cX9_wayOf 12 = .ok (.iload_n 2, 1) := by decide +kernel
theorem dX9_wayOf_13 : decode cX9_wayOf 13 = .ok (.iadd, 1) := by decide +kernel
theorem dX9_wayOf_14 : decode cX9_wayOf 14 = .ok (.iaload, 1) := by decide +kernel
theorem dX9_wayOf_15 : decode cX9_wayOf 15 = .ok (.sipush 10000, 3) := by decide +kernel
theorem dX9_wayOf_18 : decode cX9_wayOf 18 = .ok (.if_icmp .ge 17, 3) := by decide +kernel
theorem dX9_wayOf_21 : decode cX9_wayOf 21 = .ok (.aload_n 0, 1) := by decide +kernel
theorem dX9_wayOf_22 : decode cX9_wayOf 22 = .ok (.getfield 19, 3) := by decide +kernel
theorem dX9_wayOf_25 : decode cX9_wayOf 25 = .ok (.bipush 6, 2) := by decide +kernel
theorem dX9_wayOf_27 : decode cX9_wayOf 27 = .ok (.iload_n 1, 1) := by decide +kernel
theorem dX9_wayOf_28 : decode cX9_wayOf 28 = .ok (.imul, 1) := by decide +kernel
theorem dX9_wayOf_29 : decode cX9_wayOf 29 = .ok (.iload_n 2, 1) := by decide +kernel
theorem dX9_wayOf_30 : decode cX9_wayOf 30 = .ok (.iadd, 1) := by decide +kernel
theorem dX9_wayOf_31 : decode cX9_wayOf 31 = .ok (.iaload, 1) := by decide +kernel
theorem dX9_wayOf_32 : decode cX9_wayOf 32 = .ok (.goto 4, 3) := by decide +kernel
theorem dX9_wayOf_35 : decode cX9_wayOf 35 = .ok (.iconst (-1), 1) := by decide +kernel
theorem dX9_wayOf_36 : decode cX9_wayOf 36 = .ok (.ireturn, 1) := by decide +kernel
set_option maxRecDepth 20000 in
theorem ggX9_way_X9_isPlace : GoodIn wsX9_way wsX9_isPlace := goodIn_r _ [5, 6, 7, 8, 4, 9, 25, 26, 27, 28, 29, 30, 31, 32, 33, 34, 35, 36, 37, 38, 39, 40, 41, 42, 43, 44, 45, 46, 47] (by decide +kernel) (by decide +kernel)
set_option maxRecDepth 20000 in
theorem gX9_way_X9_isPlace : GoodIn wsX9_way (wsV RX9 58 RX9 yX9_isPlace wsX9_isPlace) := goodIn_app (goodIn_of _ (by decide +kernel)) ggX9_way_X9_isPlace
set_option maxRecDepth 20000 in
theorem ggX9_way_X9_finds : GoodIn wsX9_way wsX9_finds := goodIn_r _ [13, 14, 15, 25, 26, 27, 28, 29, 30, 31, 32, 33, 34, 35, 36, 37, 38, 39, 40, 41, 42, 43, 44, 45, 46, 47] (by decide +kernel) (by decide +kernel)
set_option maxRecDepth 20000 in
theorem gX9_way_X9_finds : GoodIn wsX9_way (wsV RX9 68 RX9 yX9_finds wsX9_finds) := goodIn_app (goodIn_of _ (by decide +kernel)) ggX9_way_X9_finds
set_option maxRecDepth 20000 in
theorem ggX9_way_X9_wayOf : GoodIn wsX9_way wsX9_wayOf := goodIn_r _ [19, 20, 21, 22, 23, 4, 24, 6, 25, 26, 27, 28, 29, 30, 31, 32, 33, 34, 35, 36, 37, 38, 39, 40, 41, 42, 43, 44, 45, 46, 47] (by decide +kernel) (by decide +kernel)
set_option maxRecDepth 20000 in
theorem gX9_way_X9_wayOf : GoodIn wsX9_way (wsV RX9 77 RX9 yX9_wayOf wsX9_wayOf) := goodIn_app (goodIn_of _ (by decide +kernel)) ggX9_way_X9_wayOf
theorem dX9_way_0 : decode cX9_way 0 = .ok (.aload_n 0, 1) := by decide +kernel
theorem dX9_way_1 : decode cX9_way 1 = .ok (.iload_n 1, 1) := by decide +kernel
theorem dX9_way_2 : decode cX9_way 2 = .ok (.invokevirtual 58, 3) := by decide +kernel
theorem dX9_way_5 : decode cX9_way 5 = .ok (.ifCond .eq 11, 3) := by decide +kernel
theorem dX9_way_8 : decode cX9_way 8 = .ok (.aload_n 0, 1) := by decide +kernel
theorem dX9_way_9 : decode cX9_way 9 = .ok (.iload_n 2, 1) := by decide +kernel
theorem dX9_way_10 : decode cX9_way 10 = .ok (.invokevirtual 58, 3) := by decide +kernel
theorem dX9_way_13 : decode cX9_way 13 = .ok (.ifCond .ne 9, 3) := by decide +kernel
theorem dX9_way_16 : decode cX9_way 16 = .ok (.aload_n 0, 1) := by decide +kernel
theorem dX9_way_17 : decode cX9_way 17 = .ok (.iconst 1, 1) := by decide +kernel
theorem dX9_way_18 : decode cX9_way 18 = .ok (.invokevirtual 68, 3) := by decide +kernel
theorem dX9_way_21 : decode cX9_way 21 = .ok (.ireturn, 1) := by decide +kernel
theorem dX9_way_22 : decode cX9_way 22 = .ok (.aload_n 0, 1) := by decide +kernel
theorem dX9_way_23 : decode cX9_way 23 = .ok (.iload_n 1, 1) := by decide +kernel
theorem dX9_way_24 : decode cX9_way 24 = .ok (.iload_n 2, 1) := by decide +kernel
theorem dX9_way_25 : decode cX9_way 25 = .ok (.invokevirtual 77, 3) := by decide +kernel
theorem dX9_way_28 : decode cX9_way 28 = .ok (.istore_n 3, 1) := by decide +kernel
theorem dX9_way_29 : decode cX9_way 29 = .ok (.iload_n 3, 1) := by decide +kernel
theorem dX9_way_30 : decode cX9_way 30 = .ok (.ifCond .ge 11, 3) := by decide +kernel
theorem dX9_way_33 : decode cX9_way 33 = .ok (.aload_n 0, 1) := by decide +kernel
theorem dX9_way_34 : decode cX9_way 34 = .ok (.iconst 2, 1) := by decide +kernel
theorem dX9_way_35 : decode cX9_way 35 = .ok (.invokevirtual 68, 3) := by decide +kernel
theorem dX9_way_38 : decode cX9_way 38 = .ok (.goto 4, 3) := by decide +kernel
theorem dX9_way_41 : decode cX9_way 41 = .ok (.iload_n 3, 1) := by decide +kernel
theorem dX9_way_42 : decode cX9_way 42 = .ok (.ireturn, 1) := by decide +kernel
theorem dX9_isOnWay_0 : decode cX9_isOnWay 0 = .ok (.aload_n 0, 1) := by decide +kernel
theorem dX9_isOnWay_1 : decode cX9_isOnWay 1 = .ok (.getfield 7, 3) := by decide +kernel
theorem dX9_isOnWay_4 : decode cX9_isOnWay 4 = .ok (.bipush 20, 2) := by decide +kernel
theorem dX9_isOnWay_6 : decode cX9_isOnWay 6 = .ok (.bipush 6, 2) := by decide +kernel
theorem dX9_isOnWay_8 : decode cX9_isOnWay 8 = .ok (.iload_n 1, 1) := by decide +kernel
theorem dX9_isOnWay_9 : decode cX9_isOnWay 9 = .ok (.imul, 1) := by decide +kernel
theorem dX9_isOnWay_10 : decode cX9_isOnWay 10 = .ok (.iadd, 1) := by decide +kernel
theorem dX9_isOnWay_11 : decode cX9_isOnWay 11 = .ok (.iload_n 2, 1) := by decide +kernel
theorem dX9_isOnWay_12 : decode cX9_isOnWay 12 = .ok (.iadd, 1) := by decide +kernel
theorem dX9_isOnWay_13 : decode cX9_isOnWay 13 = .ok (.iaload, 1) := by decide +kernel
theorem dX9_isOnWay_14 : decode cX9_isOnWay 14 = .ok (.ifCond .le 47, 3) := by decide +kernel
theorem dX9_isOnWay_17 : decode cX9_isOnWay 17 = .ok (.aload_n 0, 1) := by decide +kernel
theorem dX9_isOnWay_18 : decode cX9_isOnWay 18 = .ok (.getfield 7, 3) := by decide +kernel
theorem dX9_isOnWay_21 : decode cX9_isOnWay 21 = .ok (.bipush 20, 2) := by decide +kernel
theorem dX9_isOnWay_23 : decode cX9_isOnWay 23 = .ok (.bipush 6, 2) := by decide +kernel
theorem dX9_isOnWay_25 : decode cX9_isOnWay 25 = .ok (.iload_n 1, 1) := by decide +kernel
theorem dX9_isOnWay_26 : decode cX9_isOnWay 26 = .ok (.imul, 1) := by decide +kernel
theorem dX9_isOnWay_27 : decode cX9_isOnWay 27 = .ok (.iadd, 1) := by decide +kernel
theorem dX9_isOnWay_28 : decode cX9_isOnWay 28 = .ok (.iload_n 2, 1) := by decide +kernel
theorem dX9_isOnWay_29 : decode cX9_isOnWay 29 = .ok (.iadd, 1) := by decide +kernel
theorem dX9_isOnWay_30 : decode cX9_isOnWay 30 = .ok (.iaload, 1) := by decide +kernel
theorem dX9_isOnWay_31 : decode cX9_isOnWay 31 = .ok (.aload_n 0, 1) := by decide +kernel
theorem dX9_isOnWay_32 : decode cX9_isOnWay 32 = .ok (.getfield 19, 3) := by decide +kernel
theorem dX9_isOnWay_35 : decode cX9_isOnWay 35 = .ok (.bipush 6, 2) := by decide +kernel
theorem dX9_isOnWay_37 : decode cX9_isOnWay 37 = .ok (.iload_n 2, 1) := by decide +kernel
theorem dX9_isOnWay_38 : decode cX9_isOnWay 38 = .ok (.imul, 1) := by decide +kernel
theorem dX9_isOnWay_39 : decode cX9_isOnWay 39 = .ok (.iload_n 3, 1) := by decide +kernel
theorem dX9_isOnWay_40 : decode cX9_isOnWay 40 = .ok (.iadd, 1) := by decide +kernel
theorem dX9_isOnWay_41 : decode cX9_isOnWay 41 = .ok (.iaload, 1) := by decide +kernel
theorem dX9_isOnWay_42 : decode cX9_isOnWay 42 = .ok (.iadd, 1) := by decide +kernel
theorem dX9_isOnWay_43 : decode cX9_isOnWay 43 = .ok (.aload_n 0, 1) := by decide +kernel
theorem dX9_isOnWay_44 : decode cX9_isOnWay 44 = .ok (.getfield 19, 3) := by decide +kernel
theorem dX9_isOnWay_47 : decode cX9_isOnWay 47 = .ok (.bipush 6, 2) := by decide +kernel
theorem dX9_isOnWay_49 : decode cX9_isOnWay 49 = .ok (.iload_n 1, 1) := by decide +kernel
theorem dX9_isOnWay_50 : decode cX9_isOnWay 50 = .ok (.imul, 1) := by decide +kernel
theorem dX9_isOnWay_51 : decode cX9_isOnWay 51 = .ok (.iload_n 3, 1) := by decide +kernel
theorem dX9_isOnWay_52 : decode cX9_isOnWay 52 = .ok (.iadd, 1) := by decide +kernel
theorem dX9_isOnWay_53 : decode cX9_isOnWay 53 = .ok (.iaload, 1) := by decide +kernel
theorem dX9_isOnWay_54 : decode cX9_isOnWay 54 = .ok (.if_icmp .ne 7, 3) := by decide +kernel
theorem dX9_isOnWay_57 : decode cX9_isOnWay 57 = .ok (.iconst 1, 1) := by decide +kernel
theorem dX9_isOnWay_58 : decode cX9_isOnWay 58 = .ok (.goto 4, 3) := by decide +kernel
theorem dX9_isOnWay_61 : decode cX9_isOnWay 61 = .ok (.iconst 0, 1) := by decide +kernel
theorem dX9_isOnWay_62 : decode cX9_isOnWay 62 = .ok (.ireturn, 1) := by decide +kernel
set_option maxRecDepth 20000 in
theorem ggX9_findSteps_X9_isOnWay : GoodIn wsX9_findSteps wsX9_isOnWay := goodIn_r _ [7, 8, 2, 9, 10, 11, 12, 13, 14, 15, 16, 17, 18, 19, 20, 21, 22, 23, 24, 25, 26, 27, 28, 29, 30, 31] (by decide +kernel) (by decide +kernel)
set_option maxRecDepth 20000 in
theorem gX9_findSteps_X9_isOnWay : GoodIn wsX9_findSteps (wsV RX9 81 RX9 yX9_isOnWay wsX9_isOnWay) := goodIn_app (goodIn_of _ (by decide +kernel)) ggX9_findSteps_X9_isOnWay
theorem dX9_findSteps_0 : decode cX9_findSteps 0 = .ok (.iconst 0, 1) := by decide +kernel
theorem dX9_findSteps_1 : decode cX9_findSteps 1 = .ok (.istore_n 2, 1) := by decide +kernel
theorem dX9_findSteps_2 : decode cX9_findSteps 2 = .ok (.iload_n 2, 1) := by decide +kernel
theorem dX9_findSteps_3 : decode cX9_findSteps 3 = .ok (.bipush 6, 2) := by decide +kernel
theorem dX9_findSteps_5 : decode cX9_findSteps 5 = .ok (.if_icmp .ge 27, 3) := by decide +kernel
theorem dX9_findSteps_8 : decode cX9_findSteps 8 = .ok (.aload_n 0, 1) := by decide +kernel
theorem dX9_findSteps_9 : decode cX9_findSteps 9 = .ok (.getfield 22, 3) := by decide +kernel
theorem dX9_findSteps_12 : decode cX9_findSteps 12 = .ok (.iload_n 2, 1) := by decide +kernel
theorem dX9_findSteps_13 : decode cX9_findSteps 13 = .ok (.iload_n 2, 1) := by decide +kernel
theorem dX9_findSteps_14 : decode cX9_findSteps 14 = .ok (.iload_n 1, 1) := by decide +kernel
theorem dX9_findSteps_15 : decode cX9_findSteps 15 = .ok (.if_icmp .ne 7, 3) := by decide +kernel
theorem dX9_findSteps_18 : decode cX9_findSteps 18 = .ok (.iconst 0, 1) := by decide +kernel
theorem dX9_findSteps_19 : decode cX9_findSteps 19 = .ok (.goto 6, 3) := by decide +kernel
theorem dX9_findSteps_22 : decode cX9_findSteps 22 = .ok (.sipush 10000, 3) := by decide +kernel
theorem dX9_findSteps_25 : decode cX9_findSteps 25 = .ok (.iastore, 1) := by decide +kernel
theorem dX9_findSteps_26 : decode cX9_findSteps 26 = .ok (.iinc 2 1, 3) := by decide +kernel
theorem dX9_findSteps_29 : decode cX9_findSteps 29 = .ok (.goto (-27), 3) := by decide +kernel
theorem dX9_findSteps_32 : decode cX9_findSteps 32 = .ok (.iconst 0, 1) := by decide +kernel
theorem dX9_findSteps_33 : decode cX9_findSteps 33 = .ok (.istore_n 2, 1) := by decide +kernel
theorem dX9_findSteps_34 : decode cX9_findSteps 34 = .ok (.iload_n 2, 1) := by decide +kernel
theorem dX9_findSteps_35 : decode cX9_findSteps 35 = .ok (.bipush 6, 2) := by decide +kernel
theorem dX9_findSteps_37 : decode cX9_findSteps 37 = .ok (.if_icmp .ge 126, 3) := by decide +kernel
theorem dX9_findSteps_40 : decode cX9_findSteps 40 = .ok (.iconst 0, 1) := by decide +kernel
theorem dX9_findSteps_41 : decode cX9_findSteps 41 = .ok (.istore_n 3, 1) := by decide +kernel
theorem dX9_findSteps_42 : decode cX9_findSteps 42 = .ok (.iload_n 3, 1) := by decide +kernel
theorem dX9_findSteps_43 : decode cX9_findSteps 43 = .ok (.bipush 36, 2) := by decide +kernel
theorem dX9_findSteps_45 : decode cX9_findSteps 45 = .ok (.if_icmp .ge 112, 3) := by decide +kernel
theorem dX9_findSteps_48 : decode cX9_findSteps 48 = .ok (.aload_n 0, 1) := by decide +kernel
theorem dX9_findSteps_49 : decode cX9_findSteps 49 = .ok (.getfield 19, 3) := by decide +kernel
theorem dX9_findSteps_52 : decode cX9_findSteps 52 = .ok (.bipush 6, 2) := by decide +kernel
theorem dX9_findSteps_54 : decode cX9_findSteps 54 = .ok (.iload_n 3, 1) := by decide +kernel
theorem dX9_findSteps_55 : decode cX9_findSteps 55 = .ok (.bipush 6, 2) := by decide +kernel
theorem dX9_findSteps_57 : decode cX9_findSteps 57 = .ok (.idiv, 1) := by decide +kernel
theorem dX9_findSteps_58 : decode cX9_findSteps 58 = .ok (.imul, 1) := by decide +kernel
theorem dX9_findSteps_59 : decode cX9_findSteps 59 = .ok (.iload_n 1, 1) := by decide +kernel
theorem dX9_findSteps_60 : decode cX9_findSteps 60 = .ok (.iadd, 1) := by decide +kernel
theorem dX9_findSteps_61 : decode cX9_findSteps 61 = .ok (.iaload, 1) := by decide +kernel
theorem dX9_findSteps_62 : decode cX9_findSteps 62 = .ok (.sipush 10000, 3) := by decide +kernel
theorem dX9_findSteps_65 : decode cX9_findSteps 65 = .ok (.if_icmp .ge 46, 3) := by decide +kernel
theorem dX9_findSteps_68 : decode cX9_findSteps 68 = .ok (.aload_n 0, 1) := by decide +kernel
theorem dX9_findSteps_69 : decode cX9_findSteps 69 = .ok (.iload_n 3, 1) := by decide +kernel
theorem dX9_findSteps_70 : decode cX9_findSteps 70 = .ok (.bipush 6, 2) := by decide +kernel
theorem dX9_findSteps_72 : decode cX9_findSteps 72 = .ok (.idiv, 1) := by decide +kernel
theorem dX9_findSteps_73 : decode cX9_findSteps 73 = .ok (.iload_n 3, 1) := by decide +kernel
theorem dX9_findSteps_74 : decode cX9_findSteps 74 = .ok (.bipush 6, 2) := by decide +kernel
theorem dX9_findSteps_76 : decode cX9_findSteps 76 = .ok (.irem, 1) := by decide +kernel
theorem dX9_findSteps_77 : decode cX9_findSteps 77 = .ok (.iload_n 1, 1) := by decide +kernel
theorem dX9_findSteps_78 : decode cX9_findSteps 78 = .ok (.invokevirtual 81, 3) := by decide +kernel
theorem dX9_findSteps_81 : decode cX9_findSteps 81 = .ok (.ifCond .eq 30, 3) := by decide +kernel
theorem dX9_findSteps_84 : decode cX9_findSteps 84 = .ok (.aload_n 0, 1) := by decide +kernel
theorem dX9_findSteps_85 : decode cX9_findSteps 85 = .ok (.getfield 22, 3) := by decide +kernel
theorem dX9_findSteps_88 : decode cX9_findSteps 88 = .ok (.iload_n 3, 1) := by decide +kernel
theorem dX9_findSteps_89 : decode cX9_findSteps 89 = .ok (.bipush 6, 2) := by decide +kernel
theorem dX9_findSteps_91 : decode cX9_findSteps 91 = .ok (.irem, 1) := by decide +kernel
theorem dX9_findSteps_92 : decode cX9_findSteps 92 = .ok (.iaload, 1) := by decide +kernel
theorem dX9_findSteps_93 : decode cX9_findSteps 93 = .ok (.iconst 1, 1) := by decide +kernel
theorem dX9_findSteps_94 : decode cX9_findSteps 94 = .ok (.iadd, 1) := by decide +kernel
theorem dX9_findSteps_95 : decode cX9_findSteps 95 = .ok (.aload_n 0, 1) := by decide +kernel
theorem dX9_findSteps_96 : decode cX9_findSteps 96 = .ok (.getfield 22, 3) := by decide +kernel
theorem dX9_findSteps_99 : decode cX9_findSteps 99 = .ok (.iload_n 3, 1) := by decide +kernel
theorem dX9_findSteps_100 : decode cX9_findSteps 100 = .ok (.bipush 6, 2) := by decide +kernel
theorem dX9_findSteps_102 : decode cX9_findSteps 102 = .ok (.idiv, 1) := by decide +kernel
theorem dX9_findSteps_103 : decode cX9_findSteps 103 = .ok (.iaload, 1) := by decide +kernel
theorem dX9_findSteps_104 : decode cX9_findSteps 104 = .ok (.if_icmp .ge 7, 3) := by decide +kernel
theorem dX9_findSteps_107 : decode cX9_findSteps 107 = .ok (.iconst 1, 1) := by decide +kernel
theorem dX9_findSteps_108 : decode cX9_findSteps 108 = .ok (.goto 4, 3) := by decide +kernel
theorem dX9_findSteps_111 : decode cX9_findSteps 111 = .ok (.iconst 0, 1) := by decide +kernel
theorem dX9_findSteps_112 : decode cX9_findSteps 112 = .ok (.istore 4, 2) := by decide +kernel
theorem dX9_findSteps_114 : decode cX9_findSteps 114 = .ok (.aload_n 0, 1) := by decide +kernel
theorem dX9_findSteps_115 : decode cX9_findSteps 115 = .ok (.getfield 22, 3) := by decide +kernel
theorem dX9_findSteps_118 : decode cX9_findSteps 118 = .ok (.iload_n 3, 1) := by decide +kernel
theorem dX9_findSteps_119 : decode cX9_findSteps 119 = .ok (.bipush 6, 2) := by decide +kernel
theorem dX9_findSteps_121 : decode cX9_findSteps 121 = .ok (.idiv, 1) := by decide +kernel
theorem dX9_findSteps_122 : decode cX9_findSteps 122 = .ok (.iload 4, 2) := by decide +kernel
theorem dX9_findSteps_124 : decode cX9_findSteps 124 = .ok (.ifCond .eq 17, 3) := by decide +kernel
theorem dX9_findSteps_127 : decode cX9_findSteps 127 = .ok (.aload_n 0, 1) := by decide +kernel
theorem dX9_findSteps_128 : decode cX9_findSteps 128 = .ok (.getfield 22, 3) := by decide +kernel
theorem dX9_findSteps_131 : decode cX9_findSteps 131 = .ok (.iload_n 3, 1) := by decide +kernel
theorem dX9_findSteps_132 : decode cX9_findSteps 132 = .ok (.bipush 6, 2) := by decide +kernel
theorem dX9_findSteps_134 : decode cX9_findSteps 134 = .ok (.irem, 1) := by decide +kernel
theorem dX9_findSteps_135 : decode cX9_findSteps 135 = .ok (.iaload, 1) := by decide +kernel
theorem dX9_findSteps_136 : decode cX9_findSteps 136 = .ok (.iconst 1, 1) := by decide +kernel
theorem dX9_findSteps_137 : decode cX9_findSteps 137 = .ok (.iadd, 1) := by decide +kernel
theorem dX9_findSteps_138 : decode cX9_findSteps 138 = .ok (.goto 12, 3) := by decide +kernel
theorem dX9_findSteps_141 : decode cX9_findSteps 141 = .ok (.aload_n 0, 1) := by decide +kernel
theorem dX9_findSteps_142 : decode cX9_findSteps 142 = .ok (.getfield 22, 3) := by decide +kernel
theorem dX9_findSteps_145 : decode cX9_findSteps 145 = .ok (.iload_n 3, 1) := by decide +kernel
theorem dX9_findSteps_146 : decode cX9_findSteps 146 = .ok (.bipush 6, 2) := by decide +kernel
theorem dX9_findSteps_148 : decode cX9_findSteps 148 = .ok (.idiv, 1) := by decide +kernel
theorem dX9_findSteps_149 : decode cX9_findSteps 149 = .ok (.iaload, 1) := by decide +kernel
theorem dX9_findSteps_150 : decode cX9_findSteps 150 = .ok (.iastore, 1) := by decide +kernel
theorem dX9_findSteps_151 : decode cX9_findSteps 151 = .ok (.iinc 3 1, 3) := by decide +kernel
theorem dX9_findSteps_154 : decode cX9_findSteps 154 = .ok (.goto (-112), 3) := by decide +kernel
theorem dX9_findSteps_157 : decode cX9_findSteps 157 = .ok (.iinc 2 1, 3) := by decide +kernel
theorem dX9_findSteps_160 : decode cX9_findSteps 160 = .ok (.goto (-126), 3) := by decide +kernel
theorem dX9_findSteps_163 : decode cX9_findSteps 163 = .ok (.return_, 1) := by decide +kernel
set_option maxRecDepth 20000 in
theorem ggX9_route_X9_isPlace : GoodIn wsX9_route wsX9_isPlace := goodIn_r _ [6, 7, 8, 9, 5, 10, 34, 35, 36, 37, 38, 39, 40, 41, 42, 43, 44, 45, 46, 47, 48, 49, 50, 51, 52, 53, 54, 55, 56] (by decide +kernel) (by decide +kernel)
set_option maxRecDepth 20000 in
theorem gX9_route_X9_isPlace : GoodIn wsX9_route (wsV RX9 58 RX9 yX9_isPlace wsX9_isPlace) := goodIn_app (goodIn_of _ (by decide +kernel)) ggX9_route_X9_isPlace
set_option maxRecDepth 20000 in
theorem ggX9_route_X9_finds : GoodIn wsX9_route wsX9_finds := goodIn_r _ [14, 15, 16, 34, 35, 36, 37, 38, 39, 40, 41, 42, 43, 44, 45, 46, 47, 48, 49, 50, 51, 52, 53, 54, 55, 56] (by decide +kernel) (by decide +kernel)
set_option maxRecDepth 20000 in
theorem gX9_route_X9_finds : GoodIn wsX9_route (wsV RX9 68 RX9 yX9_finds wsX9_finds) := goodIn_app (goodIn_of _ (by decide +kernel)) ggX9_route_X9_finds
set_option maxRecDepth 20000 in
theorem ggX9_route_X9_wayOf : GoodIn wsX9_route wsX9_wayOf := goodIn_r _ [20, 21, 22, 23, 24, 5, 25, 7, 34, 35, 36, 37, 38, 39, 40, 41, 42, 43, 44, 45, 46, 47, 48, 49, 50, 51, 52, 53, 54, 55, 56] (by decide +kernel) (by decide +kernel)
set_option maxRecDepth 20000 in
theorem gX9_route_X9_wayOf : GoodIn wsX9_route (wsV RX9 77 RX9 yX9_wayOf wsX9_wayOf) := goodIn_app (goodIn_of _ (by decide +kernel)) ggX9_route_X9_wayOf
set_option maxRecDepth 20000 in
theorem ggX9_route_X9_findSteps : GoodIn wsX9_route wsX9_findSteps := goodIn_r _ [29, 1, 21, 30, 31, 32, 5, 33, 7, 34, 35, 36, 37, 38, 39, 40, 41, 42, 43, 44, 45, 46, 47, 48, 49, 50, 51, 52, 53, 54, 55, 56] (by decide +kernel) (by decide +kernel)
set_option maxRecDepth 20000 in
theorem gX9_route_X9_findSteps : GoodIn wsX9_route (wsV RX9 85 RX9 yX9_findSteps wsX9_findSteps) := goodIn_app (goodIn_of _ (by decide +kernel)) ggX9_route_X9_findSteps
set_option maxRecDepth 20000 in
theorem ggX9_route_X9_isOnWay : GoodIn wsX9_route wsX9_isOnWay := goodIn_r _ [33, 7, 21, 34, 35, 36, 37, 38, 39, 40, 41, 42, 43, 44, 45, 46, 47, 48, 49, 50, 51, 52, 53, 54, 55, 56] (by decide +kernel) (by decide +kernel)
set_option maxRecDepth 20000 in
theorem gX9_route_X9_isOnWay : GoodIn wsX9_route (wsV RX9 81 RX9 yX9_isOnWay wsX9_isOnWay) := goodIn_app (goodIn_of _ (by decide +kernel)) ggX9_route_X9_isOnWay
theorem dX9_route_0 : decode cX9_route 0 = .ok (.aload_n 0, 1) := by decide +kernel
theorem dX9_route_1 : decode cX9_route 1 = .ok (.iload_n 1, 1) := by decide +kernel
theorem dX9_route_2 : decode cX9_route 2 = .ok (.invokevirtual 58, 3) := by decide +kernel
theorem dX9_route_5 : decode cX9_route 5 = .ok (.ifCond .eq 16, 3) := by decide +kernel
theorem dX9_route_8 : decode cX9_route 8 = .ok (.aload_n 0, 1) := by decide +kernel
theorem dX9_route_9 : decode cX9_route 9 = .ok (.iload_n 2, 1) := by decide +kernel
theorem dX9_route_10 : decode cX9_route 10 = .ok (.invokevirtual 58, 3) := by decide +kernel
theorem dX9_route_13 : decode cX9_route 13 = .ok (.ifCond .eq 8, 3) := by decide +kernel
theorem dX9_route_16 : decode cX9_route 16 = .ok (.iload_n 3, 1) := by decide +kernel
theorem dX9_route_17 : decode cX9_route 17 = .ok (.iconst (-1), 1) := by decide +kernel
theorem dX9_route_18 : decode cX9_route 18 = .ok (.if_icmp .ge 9, 3) := by decide +kernel
theorem dX9_route_21 : decode cX9_route 21 = .ok (.aload_n 0, 1) := by decide +kernel
theorem dX9_route_22 : decode cX9_route 22 = .ok (.iconst 1, 1) := by decide +kernel
theorem dX9_route_23 : decode cX9_route 23 = .ok (.invokevirtual 68, 3) := by decide +kernel
theorem dX9_route_26 : decode cX9_route 26 = .ok (.ireturn, 1) := by decide +kernel
theorem dX9_route_27 : decode cX9_route 27 = .ok (.aload_n 0, 1) := by decide +kernel
theorem dX9_route_28 : decode cX9_route 28 = .ok (.iload_n 1, 1) := by decide +kernel
theorem dX9_route_29 : decode cX9_route 29 = .ok (.iload_n 2, 1) := by decide +kernel
theorem dX9_route_30 : decode cX9_route 30 = .ok (.invokevirtual 77, 3) := by decide +kernel
theorem dX9_route_33 : decode cX9_route 33 = .ok (.ifCond .ge 9, 3) := by decide +kernel
theorem dX9_route_36 : decode cX9_route 36 = .ok (.aload_n 0, 1) := by decide +kernel
theorem dX9_route_37 : decode cX9_route 37 = .ok (.iconst 2, 1) := by decide +kernel
theorem dX9_route_38 : decode cX9_route 38 = .ok (.invokevirtual 68, 3) := by decide +kernel
theorem dX9_route_41 : decode cX9_route 41 = .ok (.ireturn, 1) := by decide +kernel
theorem dX9_route_42 : decode cX9_route 42 = .ok (.aload_n 0, 1) := by decide +kernel
theorem dX9_route_43 : decode cX9_route 43 = .ok (.iload_n 2, 1) := by decide +kernel
theorem dX9_route_44 : decode cX9_route 44 = .ok (.invokevirtual 85, 3) := by decide +kernel
theorem dX9_route_47 : decode cX9_route 47 = .ok (.iload_n 3, 1) := by decide +kernel
theorem dX9_route_48 : decode cX9_route 48 = .ok (.iconst (-1), 1) := by decide +kernel
theorem dX9_route_49 : decode cX9_route 49 = .ok (.if_icmp .ne 12, 3) := by decide +kernel
theorem dX9_route_52 : decode cX9_route 52 = .ok (.aload_n 0, 1) := by decide +kernel
theorem dX9_route_53 : decode cX9_route 53 = .ok (.getfield 22, 3) := by decide +kernel
theorem dX9_route_56 : decode cX9_route 56 = .ok (.iload_n 1, 1) := by decide +kernel
theorem dX9_route_57 : decode cX9_route 57 = .ok (.iaload, 1) := by decide +kernel
theorem dX9_route_58 : decode cX9_route 58 = .ok (.iconst 1, 1) := by decide +kernel
theorem dX9_route_59 : decode cX9_route 59 = .ok (.iadd, 1) := by decide +kernel
theorem dX9_route_60 : decode cX9_route 60 = .ok (.ireturn, 1) := by decide +kernel
theorem dX9_route_61 : decode cX9_route 61 = .ok (.iload_n 3, 1) := by decide +kernel
theorem dX9_route_62 : decode cX9_route 62 = .ok (.aload_n 0, 1) := by decide +kernel
theorem dX9_route_63 : decode cX9_route 63 = .ok (.getfield 22, 3) := by decide +kernel
theorem dX9_route_66 : decode cX9_route 66 = .ok (.iload_n 1, 1) := by decide +kernel
theorem dX9_route_67 : decode cX9_route 67 = .ok (.iaload, 1) := by decide +kernel
theorem dX9_route_68 : decode cX9_route 68 = .ok (.if_icmp .le 9, 3) := by decide +kernel
theorem dX9_route_71 : decode cX9_route 71 = .ok (.aload_n 0, 1) := by decide +kernel
theorem dX9_route_72 : decode cX9_route 72 = .ok (.iconst 2, 1) := by decide +kernel
theorem dX9_route_73 : decode cX9_route 73 = .ok (.invokevirtual 68, 3) := by decide +kernel
theorem dX9_route_76 : decode cX9_route 76 = .ok (.ireturn, 1) := by decide +kernel
theorem dX9_route_77 : decode cX9_route 77 = .ok (.iload_n 1, 1) := by decide +kernel
theorem dX9_route_78 : decode cX9_route 78 = .ok (.istore 4, 2) := by decide +kernel
theorem dX9_route_80 : decode cX9_route 80 = .ok (.iconst 0, 1) := by decide +kernel
theorem dX9_route_81 : decode cX9_route 81 = .ok (.istore 5, 2) := by decide +kernel
theorem dX9_route_83 : decode cX9_route 83 = .ok (.iload 5, 2) := by decide +kernel
theorem dX9_route_85 : decode cX9_route 85 = .ok (.iload_n 3, 1) := by decide +kernel
theorem dX9_route_86 : decode cX9_route 86 = .ok (.if_icmp .ge 53, 3) := by decide +kernel
theorem dX9_route_89 : decode cX9_route 89 = .ok (.iconst 0, 1) := by decide +kernel
theorem dX9_route_90 : decode cX9_route 90 = .ok (.istore 6, 2) := by decide +kernel
theorem dX9_route_92 : decode cX9_route 92 = .ok (.aload_n 0, 1) := by decide +kernel
theorem dX9_route_93 : decode cX9_route 93 = .ok (.iload 4, 2) := by decide +kernel
theorem dX9_route_95 : decode cX9_route 95 = .ok (.iload 6, 2) := by decide +kernel
theorem dX9_route_97 : decode cX9_route 97 = .ok (.iload_n 2, 1) := by decide +kernel
theorem dX9_route_98 : decode cX9_route 98 = .ok (.invokevirtual 81, 3) := by decide +kernel
theorem dX9_route_101 : decode cX9_route 101 = .ok (.ifCond .eq 22, 3) := by decide +kernel
theorem dX9_route_104 : decode cX9_route 104 = .ok (.aload_n 0, 1) := by decide +kernel
theorem dX9_route_105 : decode cX9_route 105 = .ok (.getfield 22, 3) := by decide +kernel
theorem dX9_route_108 : decode cX9_route 108 = .ok (.iload 6, 2) := by decide +kernel
theorem dX9_route_110 : decode cX9_route 110 = .ok (.iaload, 1) := by decide +kernel
theorem dX9_route_111 : decode cX9_route 111 = .ok (.iconst 1, 1) := by decide +kernel
theorem dX9_route_112 : decode cX9_route 112 = .ok (.iadd, 1) := by decide +kernel
theorem dX9_route_113 : decode cX9_route 113 = .ok (.aload_n 0, 1) := by decide +kernel
theorem dX9_route_114 : decode cX9_route 114 = .ok (.getfield 22, 3) := by decide +kernel
theorem dX9_route_117 : decode cX9_route 117 = .ok (.iload 4, 2) := by decide +kernel
theorem dX9_route_119 : decode cX9_route 119 = .ok (.iaload, 1) := by decide +kernel
theorem dX9_route_120 : decode cX9_route 120 = .ok (.if_icmp .eq 9, 3) := by decide +kernel
theorem dX9_route_123 : decode cX9_route 123 = .ok (.iinc 6 1, 3) := by decide +kernel
theorem dX9_route_126 : decode cX9_route 126 = .ok (.goto (-34), 3) := by decide +kernel
theorem dX9_route_129 : decode cX9_route 129 = .ok (.iload 6, 2) := by decide +kernel
theorem dX9_route_131 : decode cX9_route 131 = .ok (.istore 4, 2) := by decide +kernel
theorem dX9_route_133 : decode cX9_route 133 = .ok (.iinc 5 1, 3) := by decide +kernel
theorem dX9_route_136 : decode cX9_route 136 = .ok (.goto (-53), 3) := by decide +kernel
theorem dX9_route_139 : decode cX9_route 139 = .ok (.iload 4, 2) := by decide +kernel
theorem dX9_route_141 : decode cX9_route 141 = .ok (.ireturn, 1) := by decide +kernel
set_option maxRecDepth 20000 in
theorem ggX9_rule_X9_in : GoodIn wsX9_rule wsX9_in := goodIn_r _ [8] (by decide +kernel) (by decide +kernel)
set_option maxRecDepth 20000 in
theorem gX9_rule_X9_in : GoodIn wsX9_rule (va_wsS RX9 54 yX9_in wsX9_in) := goodIn_app (goodIn_of _ (by decide +kernel)) ggX9_rule_X9_in
set_option maxRecDepth 20000 in
theorem ggX9_rule_X9_finds : GoodIn wsX9_rule wsX9_finds := goodIn_r _ [12, 13, 14, 15, 16, 17, 18, 19, 20, 21, 22, 23, 24, 25, 26, 27, 28, 29, 30, 31, 32, 33, 34, 35, 36, 37] (by decide +kernel) (by decide +kernel)
set_option maxRecDepth 20000 in
theorem gX9_rule_X9_finds : GoodIn wsX9_rule (wsV RX9 68 RX9 yX9_finds wsX9_finds) := goodIn_app (goodIn_of _ (by decide +kernel)) ggX9_rule_X9_finds
theorem dX9_rule_0 : decode cX9_rule 0 = .ok (.iload_n 1, 1) := by decide +kernel
theorem dX9_rule_1 : decode cX9_rule 1 = .ok (.i2l, 1) := by decide +kernel
theorem dX9_rule_2 : decode cX9_rule 2 = .ok (.lconst 0, 1) := by decide +kernel
theorem dX9_rule_3 : decode cX9_rule 3 = .ok (.lconst 1, 1) := by decide +kernel
theorem dX9_rule_4 : decode cX9_rule 4 = .ok (.invokestatic 54, 3) := by decide +kernel
theorem dX9_rule_7 : decode cX9_rule 7 = .ok (.ifCond .eq 36, 3) := by decide +kernel
theorem dX9_rule_10 : decode cX9_rule 10 = .ok (.iload_n 1, 1) := by decide +kernel
theorem dX9_rule_11 : decode cX9_rule 11 = .ok (.ifCond .ne 18, 3) := by decide +kernel
theorem dX9_rule_14 : decode cX9_rule 14 = .ok (.iload_n 2, 1) := by decide +kernel
theorem dX9_rule_15 : decode cX9_rule 15 = .ok (.i2l, 1) := by decide +kernel
theorem dX9_rule_16 : decode cX9_rule 16 = .ok (.lconst 0, 1) := by decide +kernel
theorem dX9_rule_17 : decode cX9_rule 17 = .ok (.ldc2_w 89, 3) := by decide +kernel
theorem dX9_rule_20 : decode cX9_rule 20 = .ok (.invokestatic 54, 3) := by decide +kernel
theorem dX9_rule_23 : decode cX9_rule 23 = .ok (.ifCond .eq 20, 3) := by decide +kernel
theorem dX9_rule_26 : decode cX9_rule 26 = .ok (.goto 23, 3) := by decide +kernel
theorem dX9_rule_29 : decode cX9_rule 29 = .ok (.iload_n 2, 1) := by decide +kernel
theorem dX9_rule_30 : decode cX9_rule 30 = .ok (.i2l, 1) := by decide +kernel
theorem dX9_rule_31 : decode cX9_rule 31 = .ok (.ldc2_w 91, 3) := by decide +kernel
theorem dX9_rule_34 : decode cX9_rule 34 = .ok (.ldc2_w 93, 3) := by decide +kernel
theorem dX9_rule_37 : decode cX9_rule 37 = .ok (.invokestatic 54, 3) := by decide +kernel
theorem dX9_rule_40 : decode cX9_rule 40 = .ok (.ifCond .ne 9, 3) := by decide +kernel
theorem dX9_rule_43 : decode cX9_rule 43 = .ok (.aload_n 0, 1) := by decide +kernel
theorem dX9_rule_44 : decode cX9_rule 44 = .ok (.iconst 1, 1) := by decide +kernel
theorem dX9_rule_45 : decode cX9_rule 45 = .ok (.invokevirtual 68, 3) := by decide +kernel
theorem dX9_rule_48 : decode cX9_rule 48 = .ok (.ireturn, 1) := by decide +kernel
theorem dX9_rule_49 : decode cX9_rule 49 = .ok (.aload_n 0, 1) := by decide +kernel
theorem dX9_rule_50 : decode cX9_rule 50 = .ok (.getfield 7, 3) := by decide +kernel
theorem dX9_rule_53 : decode cX9_rule 53 = .ok (.iconst 5, 1) := by decide +kernel
theorem dX9_rule_54 : decode cX9_rule 54 = .ok (.iload_n 1, 1) := by decide +kernel
theorem dX9_rule_55 : decode cX9_rule 55 = .ok (.iadd, 1) := by decide +kernel
theorem dX9_rule_56 : decode cX9_rule 56 = .ok (.iaload, 1) := by decide +kernel
theorem dX9_rule_57 : decode cX9_rule 57 = .ok (.istore_n 3, 1) := by decide +kernel
theorem dX9_rule_58 : decode cX9_rule 58 = .ok (.aload_n 0, 1) := by decide +kernel
theorem dX9_rule_59 : decode cX9_rule 59 = .ok (.getfield 7, 3) := by decide +kernel
theorem dX9_rule_62 : decode cX9_rule 62 = .ok (.iconst 5, 1) := by decide +kernel
theorem dX9_rule_63 : decode cX9_rule 63 = .ok (.iload_n 1, 1) := by decide +kernel
theorem dX9_rule_64 : decode cX9_rule 64 = .ok (.iadd, 1) := by decide +kernel
theorem dX9_rule_65 : decode cX9_rule 65 = .ok (.iload_n 2, 1) := by decide +kernel
theorem dX9_rule_66 : decode cX9_rule 66 = .ok (.iastore, 1) := by decide +kernel
theorem dX9_rule_67 : decode cX9_rule 67 = .ok (.iload_n 3, 1) := by decide +kernel
theorem dX9_rule_68 : decode cX9_rule 68 = .ok (.ireturn, 1) := by decide +kernel
set_option maxRecDepth 20000 in
theorem ggX9_isPart_X9_in : GoodIn wsX9_isPart wsX9_in := goodIn_r _ [5] (by decide +kernel) (by decide +kernel)
set_option maxRecDepth 20000 in
theorem gX9_isPart_X9_in : GoodIn wsX9_isPart (va_wsS RX9 54 yX9_in wsX9_in) := goodIn_app (goodIn_of _ (by decide +kernel)) ggX9_isPart_X9_in
theorem dX9_isPart_0 : decode cX9_isPart 0 = .ok (.iload_n 0, 1) := by decide +kernel
theorem dX9_isPart_1 : decode cX9_isPart 1 = .ok (.ifCond .lt 33, 3) := by decide +kernel
theorem dX9_isPart_4 : decode cX9_isPart 4 = .ok (.iload_n 0, 1) := by decide +kernel
theorem dX9_isPart_5 : decode cX9_isPart 5 = .ok (.bipush 10, 2) := by decide +kernel
theorem dX9_isPart_7 : decode cX9_isPart 7 = .ok (.irem, 1) := by decide +kernel
theorem dX9_isPart_8 : decode cX9_isPart 8 = .ok (.i2l, 1) := by decide +kernel
theorem dX9_isPart_9 : decode cX9_isPart 9 = .ok (.lconst 1, 1) := by decide +kernel
theorem dX9_isPart_10 : decode cX9_isPart 10 = .ok (.ldc2_w 93, 3) := by decide +kernel
theorem dX9_isPart_13 : decode cX9_isPart 13 = .ok (.invokestatic 54, 3) := by decide +kernel
theorem dX9_isPart_16 : decode cX9_isPart 16 = .ok (.ifCond .eq 18, 3) := by decide +kernel
theorem dX9_isPart_19 : decode cX9_isPart 19 = .ok (.iload_n 0, 1) := by decide +kernel
theorem dX9_isPart_20 : decode cX9_isPart 20 = .ok (.bipush 10, 2) := by decide +kernel
theorem dX9_isPart_22 : decode cX9_isPart 22 = .ok (.idiv, 1) := by decide +kernel
theorem dX9_isPart_23 : decode cX9_isPart 23 = .ok (.iload_n 0, 1) := by decide +kernel
theorem dX9_isPart_24 : decode cX9_isPart 24 = .ok (.bipush 10, 2) := by decide +kernel
theorem dX9_isPart_26 : decode cX9_isPart 26 = .ok (.irem, 1) := by decide +kernel
theorem dX9_isPart_27 : decode cX9_isPart 27 = .ok (.if_icmp .gt 7, 3) := by decide +kernel
theorem dX9_isPart_30 : decode cX9_isPart 30 = .ok (.iconst 1, 1) := by decide +kernel
theorem dX9_isPart_31 : decode cX9_isPart 31 = .ok (.goto 4, 3) := by decide +kernel
theorem dX9_isPart_34 : decode cX9_isPart 34 = .ok (.iconst 0, 1) := by decide +kernel
theorem dX9_isPart_35 : decode cX9_isPart 35 = .ok (.ireturn, 1) := by decide +kernel
set_option maxRecDepth 20000 in
theorem ggX9_loss_X9_isPart : GoodIn wsX9_loss wsX9_isPart := goodIn_r _ [5, 6, 7, 8, 4, 9] (by decide +kernel) (by decide +kernel)
set_option maxRecDepth 20000 in
theorem gX9_loss_X9_isPart : GoodIn wsX9_loss (va_wsS RX9 95 yX9_isPart wsX9_isPart) := goodIn_app (goodIn_of _ (by decide +kernel)) ggX9_loss_X9_isPart
set_option maxRecDepth 20000 in
theorem ggX9_loss_X9_finds : GoodIn wsX9_loss wsX9_finds := goodIn_r _ [13, 14, 15, 16, 17, 18, 19, 20, 21, 22, 23, 24, 25, 26, 27, 28, 29, 30, 31, 32, 33, 34, 35, 36, 37, 38] (by decide +kernel) (by decide +kernel)
set_option maxRecDepth 20000 in
theorem gX9_loss_X9_finds : GoodIn wsX9_loss (wsV RX9 68 RX9 yX9_finds wsX9_finds) := goodIn_app (goodIn_of _ (by decide +kernel)) ggX9_loss_X9_finds
theorem dX9_loss_0 : decode cX9_loss 0 = .ok (.iload_n 1, 1) := by decide +kernel
theorem dX9_loss_1 : decode cX9_loss 1 = .ok (.invokestatic 95, 3) := by decide +kernel
theorem dX9_loss_4 : decode cX9_loss 4 = .ok (.ifCond .ne 9, 3) := by decide +kernel
theorem dX9_loss_7 : decode cX9_loss 7 = .ok (.aload_n 0, 1) := by decide +kernel
theorem dX9_loss_8 : decode cX9_loss 8 = .ok (.iconst 1, 1) := by decide +kernel
theorem dX9_loss_9 : decode cX9_loss 9 = .ok (.invokevirtual 68, 3) := by decide +kernel
theorem dX9_loss_12 : decode cX9_loss 12 = .ok (.ireturn, 1) := by decide +kernel
theorem dX9_loss_13 : decode cX9_loss 13 = .ok (.bipush 10, 2) := by decide +kernel
theorem dX9_loss_15 : decode cX9_loss 15 = .ok (.aload_n 0, 1) := by decide +kernel
theorem dX9_loss_16 : decode cX9_loss 16 = .ok (.getfield 7, 3) := by decide +kernel
theorem dX9_loss_19 : decode cX9_loss 19 = .ok (.bipush 7, 2) := by decide +kernel
theorem dX9_loss_21 : decode cX9_loss 21 = .ok (.iaload, 1) := by decide +kernel
theorem dX9_loss_22 : decode cX9_loss 22 = .ok (.imul, 1) := by decide +kernel
theorem dX9_loss_23 : decode cX9_loss 23 = .ok (.aload_n 0, 1) := by decide +kernel
theorem dX9_loss_24 : decode cX9_loss 24 = .ok (.getfield 7, 3) := by decide +kernel
theorem dX9_loss_27 : decode cX9_loss 27 = .ok (.bipush 8, 2) := by decide +kernel
theorem dX9_loss_29 : decode cX9_loss 29 = .ok (.iaload, 1) := by decide +kernel
theorem dX9_loss_30 : decode cX9_loss 30 = .ok (.iadd, 1) := by decide +kernel
theorem dX9_loss_31 : decode cX9_loss 31 = .ok (.istore_n 2, 1) := by decide +kernel
theorem dX9_loss_32 : decode cX9_loss 32 = .ok (.aload_n 0, 1) := by decide +kernel
theorem dX9_loss_33 : decode cX9_loss 33 = .ok (.getfield 7, 3) := by decide +kernel
theorem dX9_loss_36 : decode cX9_loss 36 = .ok (.bipush 7, 2) := by decide +kernel
theorem dX9_loss_38 : decode cX9_loss 38 = .ok (.iload_n 1, 1) := by decide +kernel
theorem dX9_loss_39 : decode cX9_loss 39 = .ok (.bipush 10, 2) := by decide +kernel
theorem dX9_loss_41 : decode cX9_loss 41 = .ok (.idiv, 1) := by decide +kernel
theorem dX9_loss_42 : decode cX9_loss 42 = .ok (.iastore, 1) := by decide +kernel
theorem dX9_loss_43 : decode cX9_loss 43 = .ok (.aload_n 0, 1) := by decide +kernel
theorem dX9_loss_44 : decode cX9_loss 44 = .ok (.getfield 7, 3) := by decide +kernel
theorem dX9_loss_47 : decode cX9_loss 47 = .ok (.bipush 8, 2) := by decide +kernel
theorem dX9_loss_49 : decode cX9_loss 49 = .ok (.iload_n 1, 1) := by decide +kernel
theorem dX9_loss_50 : decode cX9_loss 50 = .ok (.bipush 10, 2) := by decide +kernel
theorem dX9_loss_52 : decode cX9_loss 52 = .ok (.irem, 1) := by decide +kernel
theorem dX9_loss_53 : decode cX9_loss 53 = .ok (.iastore, 1) := by decide +kernel
theorem dX9_loss_54 : decode cX9_loss 54 = .ok (.iload_n 2, 1) := by decide +kernel
theorem dX9_loss_55 : decode cX9_loss 55 = .ok (.ireturn, 1) := by decide +kernel
theorem dX9_drawn_0 : decode cX9_drawn 0 = .ok (.aload_n 0, 1) := by decide +kernel
theorem dX9_drawn_1 : decode cX9_drawn 1 = .ok (.getfield 7, 3) := by decide +kernel
theorem dX9_drawn_4 : decode cX9_drawn 4 = .ok (.iconst 4, 1) := by decide +kernel
theorem dX9_drawn_5 : decode cX9_drawn 5 = .ok (.aload_n 0, 1) := by decide +kernel
theorem dX9_drawn_6 : decode cX9_drawn 6 = .ok (.getfield 7, 3) := by decide +kernel
theorem dX9_drawn_9 : decode cX9_drawn 9 = .ok (.iconst 4, 1) := by decide +kernel
theorem dX9_drawn_10 : decode cX9_drawn 10 = .ok (.iaload, 1) := by decide +kernel
theorem dX9_drawn_11 : decode cX9_drawn 11 = .ok (.ldc 98, 2) := by decide +kernel
theorem dX9_drawn_13 : decode cX9_drawn 13 = .ok (.imul, 1) := by decide +kernel
theorem dX9_drawn_14 : decode cX9_drawn 14 = .ok (.sipush 12345, 3) := by decide +kernel
theorem dX9_drawn_17 : decode cX9_drawn 17 = .ok (.iadd, 1) := by decide +kernel
theorem dX9_drawn_18 : decode cX9_drawn 18 = .ok (.iastore, 1) := by decide +kernel
theorem dX9_drawn_19 : decode cX9_drawn 19 = .ok (.aload_n 0, 1) := by decide +kernel
theorem dX9_drawn_20 : decode cX9_drawn 20 = .ok (.getfield 7, 3) := by decide +kernel
theorem dX9_drawn_23 : decode cX9_drawn 23 = .ok (.iconst 4, 1) := by decide +kernel
theorem dX9_drawn_24 : decode cX9_drawn 24 = .ok (.iaload, 1) := by decide +kernel
theorem dX9_drawn_25 : decode cX9_drawn 25 = .ok (.bipush 8, 2) := by decide +kernel
theorem dX9_drawn_27 : decode cX9_drawn 27 = .ok (.iushr, 1) := by decide +kernel
theorem dX9_drawn_28 : decode cX9_drawn 28 = .ok (.ireturn, 1) := by decide +kernel
set_option maxRecDepth 20000 in
theorem ggX9_hasCome_X9_wo : GoodIn wsX9_hasCome wsX9_wo := goodIn_r _ [5, 6, 7, 8, 9, 10, 11, 12, 13, 14, 15, 16, 17, 18, 19, 20, 21, 22, 23, 24, 25, 26, 27, 28, 29] (by decide +kernel) (by decide +kernel)
set_option maxRecDepth 20000 in
theorem gX9_hasCome_X9_wo : GoodIn wsX9_hasCome (wsV RX9 99 RX9 yX9_wo wsX9_wo) := goodIn_app (goodIn_of _ (by decide +kernel)) ggX9_hasCome_X9_wo
theorem dX9_hasCome_0 : decode cX9_hasCome 0 = .ok (.aload_n 0, 1) := by decide +kernel
theorem dX9_hasCome_1 : decode cX9_hasCome 1 = .ok (.iload_n 1, 1) := by decide +kernel
theorem dX9_hasCome_2 : decode cX9_hasCome 2 = .ok (.iconst 2, 1) := by decide +kernel
theorem dX9_hasCome_3 : decode cX9_hasCome 3 = .ok (.invokevirtual 99, 3) := by decide +kernel
theorem dX9_hasCome_6 : decode cX9_hasCome 6 = .ok (.iload_n 2, 1) := by decide +kernel
theorem dX9_hasCome_7 : decode cX9_hasCome 7 = .ok (.if_icmp .ne 37, 3) := by decide +kernel
theorem dX9_hasCome_10 : decode cX9_hasCome 10 = .ok (.aload_n 0, 1) := by decide +kernel
theorem dX9_hasCome_11 : decode cX9_hasCome 11 = .ok (.iload_n 1, 1) := by decide +kernel
theorem dX9_hasCome_12 : decode cX9_hasCome 12 = .ok (.iconst 3, 1) := by decide +kernel
theorem dX9_hasCome_13 : decode cX9_hasCome 13 = .ok (.invokevirtual 99, 3) := by decide +kernel
theorem dX9_hasCome_16 : decode cX9_hasCome 16 = .ok (.iload_n 3, 1) := by decide +kernel
theorem dX9_hasCome_17 : decode cX9_hasCome 17 = .ok (.if_icmp .ne 27, 3) := by decide +kernel
theorem dX9_hasCome_20 : decode cX9_hasCome 20 = .ok (.aload_n 0, 1) := by decide +kernel
theorem dX9_hasCome_21 : decode cX9_hasCome 21 = .ok (.iload_n 1, 1) := by decide +kernel
theorem dX9_hasCome_22 : decode cX9_hasCome 22 = .ok (.iconst 5, 1) := by decide +kernel
theorem dX9_hasCome_23 : decode cX9_hasCome 23 = .ok (.invokevirtual 99, 3) := by decide +kernel
theorem dX9_hasCome_26 : decode cX9_hasCome 26 = .ok (.ifCond .lt 18, 3) := by decide +kernel
theorem dX9_hasCome_29 : decode cX9_hasCome 29 = .ok (.aload_n 0, 1) := by decide +kernel
theorem dX9_hasCome_30 : decode cX9_hasCome 30 = .ok (.iload_n 1, 1) := by decide +kernel
theorem dX9_hasCome_31 : decode cX9_hasCome 31 = .ok (.iconst 5, 1) := by decide +kernel
theorem dX9_hasCome_32 : decode cX9_hasCome 32 = .ok (.invokevirtual 99, 3) := by decide +kernel
theorem dX9_hasCome_35 : decode cX9_hasCome 35 = .ok (.iload 4, 2) := by decide +kernel
theorem dX9_hasCome_37 : decode cX9_hasCome 37 = .ok (.if_icmp .gt 7, 3) := by decide +kernel
theorem dX9_hasCome_40 : decode cX9_hasCome 40 = .ok (.iconst 1, 1) := by decide +kernel
theorem dX9_hasCome_41 : decode cX9_hasCome 41 = .ok (.goto 4, 3) := by decide +kernel
theorem dX9_hasCome_44 : decode cX9_hasCome 44 = .ok (.iconst 0, 1) := by decide +kernel
theorem dX9_hasCome_45 : decode cX9_hasCome 45 = .ok (.ireturn, 1) := by decide +kernel
set_option maxRecDepth 20000 in
theorem ggX9_knownBy_X9_hasCome : GoodIn wsX9_knownBy wsX9_hasCome := goodIn_r _ [6, 7, 8, 9, 5, 10, 1, 11, 12, 13, 14, 15, 16, 17, 18, 19, 20, 21, 22, 23, 24, 25, 26, 27, 28, 29, 30, 31, 32, 33] (by decide +kernel) (by decide +kernel)
set_option maxRecDepth 20000 in
theorem gX9_knownBy_X9_hasCome : GoodIn wsX9_knownBy (wsV RX9 102 RX9 yX9_hasCome wsX9_hasCome) := goodIn_app (goodIn_of _ (by decide +kernel)) ggX9_knownBy_X9_hasCome
set_option maxRecDepth 20000 in
theorem ggX9_knownBy_X9_wo : GoodIn wsX9_knownBy wsX9_wo := goodIn_r _ [10, 1, 11, 12, 13, 14, 15, 16, 17, 18, 19, 20, 21, 22, 23, 24, 25, 26, 27, 28, 29, 30, 31, 32, 33] (by decide +kernel) (by decide +kernel)
set_option maxRecDepth 20000 in
theorem gX9_knownBy_X9_wo : GoodIn wsX9_knownBy (wsV RX9 99 RX9 yX9_wo wsX9_wo) := goodIn_app (goodIn_of _ (by decide +kernel)) ggX9_knownBy_X9_wo
theorem dX9_knownBy_0 : decode cX9_knownBy 0 = .ok (.iconst 0, 1) := by decide +kernel
theorem dX9_knownBy_1 : decode cX9_knownBy 1 = .ok (.istore 4, 2) := by decide +kernel
theorem dX9_knownBy_3 : decode cX9_knownBy 3 = .ok (.iconst 0, 1) := by decide +kernel
theorem dX9_knownBy_4 : decode cX9_knownBy 4 = .ok (.istore 5, 2) := by decide +kernel
theorem dX9_knownBy_6 : decode cX9_knownBy 6 = .ok (.iload 5, 2) := by decide +kernel
theorem dX9_knownBy_8 : decode cX9_knownBy 8 = .ok (.aload_n 0, 1) := by decide +kernel
theorem dX9_knownBy_9 : decode cX9_knownBy 9 = .ok (.getfield 7, 3) := by decide +kernel
theorem dX9_knownBy_12 : decode cX9_knownBy 12 = .ok (.iconst 2, 1) := by decide +kernel
theorem dX9_knownBy_13 : decode cX9_knownBy 13 = .ok (.iaload, 1) := by decide +kernel
theorem dX9_knownBy_14 : decode cX9_knownBy 14 = .ok (.if_icmp .ge 49, 3) := by decide +kernel
theorem dX9_knownBy_17 : decode cX9_knownBy 17 = .ok (.aload_n 0, 1) := by decide +kernel
theorem dX9_knownBy_18 : decode cX9_knownBy 18 = .ok (.iload 5, 2) := by decide +kernel
theorem dX9_knownBy_20 : decode cX9_knownBy 20 = .ok (.iload_n 1, 1) := by decide +kernel
theorem dX9_knownBy_21 : decode cX9_knownBy 21 = .ok (.iload_n 2, 1) := by decide +kernel
theorem dX9_knownBy_22 : decode cX9_knownBy 22 = .ok (.iload_n 3, 1) := by decide +kernel
theorem dX9_knownBy_23 : decode cX9_knownBy 23 = .ok (.invokevirtual 102, 3) := by decide +kernel
theorem dX9_knownBy_26 : decode cX9_knownBy 26 = .ok (.ifCond .eq 27, 3) := by decide +kernel
theorem dX9_knownBy_29 : decode cX9_knownBy 29 = .ok (.aload_n 0, 1) := by decide +kernel
theorem dX9_knownBy_30 : decode cX9_knownBy 30 = .ok (.iload 5, 2) := by decide +kernel
theorem dX9_knownBy_32 : decode cX9_knownBy 32 = .ok (.bipush 7, 2) := by decide +kernel
theorem dX9_knownBy_34 : decode cX9_knownBy 34 = .ok (.invokevirtual 99, 3) := by decide +kernel
theorem dX9_knownBy_37 : decode cX9_knownBy 37 = .ok (.iload 4, 2) := by decide +kernel
theorem dX9_knownBy_39 : decode cX9_knownBy 39 = .ok (.if_icmp .le 14, 3) := by decide +kernel
theorem dX9_knownBy_42 : decode cX9_knownBy 42 = .ok (.aload_n 0, 1) := by decide +kernel
theorem dX9_knownBy_43 : decode cX9_knownBy 43 = .ok (.iload 5, 2) := by decide +kernel
theorem dX9_knownBy_45 : decode cX9_knownBy 45 = .ok (.bipush 7, 2) := by decide +kernel
theorem dX9_knownBy_47 : decode cX9_knownBy 47 = .ok (.invokevirtual 99, 3) := by decide +kernel
theorem dX9_knownBy_50 : decode cX9_knownBy 50 = .ok (.goto 5, 3) := by decide +kernel
theorem dX9_knownBy_53 : decode cX9_knownBy 53 = .ok (.iload 4, 2) := by decide +kernel
theorem dX9_knownBy_55 : decode cX9_knownBy 55 = .ok (.istore 4, 2) := by decide +kernel
theorem dX9_knownBy_57 : decode cX9_knownBy 57 = .ok (.iinc 5 1, 3) := by decide +kernel
theorem dX9_knownBy_60 : decode cX9_knownBy 60 = .ok (.goto (-54), 3) := by decide +kernel
theorem dX9_knownBy_63 : decode cX9_knownBy 63 = .ok (.iload 4, 2) := by decide +kernel
theorem dX9_knownBy_65 : decode cX9_knownBy 65 = .ok (.ireturn, 1) := by decide +kernel
set_option maxRecDepth 20000 in
theorem ggX9_whyNot_X9_in : GoodIn wsX9_whyNot wsX9_in := goodIn_r _ [6] (by decide +kernel) (by decide +kernel)
set_option maxRecDepth 20000 in
theorem gX9_whyNot_X9_in : GoodIn wsX9_whyNot (va_wsS RX9 54 yX9_in wsX9_in) := goodIn_app (goodIn_of _ (by decide +kernel)) ggX9_whyNot_X9_in
set_option maxRecDepth 20000 in
theorem ggX9_whyNot_X9_areFt : GoodIn wsX9_whyNot wsX9_areFt := goodIn_r _ [10, 11, 12, 13, 5, 14, 15, 16, 17, 18, 2, 3, 4, 6, 32, 33, 34, 35, 36, 37, 38, 39, 40, 41, 42, 43, 44, 45, 46, 47, 48, 49, 50, 51, 52, 53, 54] (by decide +kernel) (by decide +kernel)
set_option maxRecDepth 20000 in
theorem gX9_whyNot_X9_areFt : GoodIn wsX9_whyNot (wsV RX9 108 RX9 yX9_areFt wsX9_areFt) := goodIn_app (goodIn_of _ (by decide +kernel)) ggX9_whyNot_X9_areFt
set_option maxRecDepth 20000 in
theorem ggX9_whyNot_X9_isPact : GoodIn wsX9_whyNot wsX9_isPact := goodIn_r _ [21, 22, 3, 4, 5, 6] (by decide +kernel) (by decide +kernel)
set_option maxRecDepth 20000 in
theorem gX9_whyNot_X9_isPact : GoodIn wsX9_whyNot (va_wsS RX9 111 yX9_isPact wsX9_isPact) := goodIn_app (goodIn_of _ (by decide +kernel)) ggX9_whyNot_X9_isPact
set_option maxRecDepth 20000 in
theorem ggX9_whyNot_X9_wayOf : GoodIn wsX9_whyNot wsX9_wayOf := goodIn_r _ [26, 27, 28, 29, 30, 5, 31, 2, 32, 33, 34, 35, 36, 37, 38, 39, 40, 41, 42, 43, 44, 45, 46, 47, 48, 49, 50, 51, 52, 53, 54] (by decide +kernel) (by decide +kernel)
set_option maxRecDepth 20000 in
theorem gX9_whyNot_X9_wayOf : GoodIn wsX9_whyNot (wsV RX9 77 RX9 yX9_wayOf wsX9_wayOf) := goodIn_app (goodIn_of _ (by decide +kernel)) ggX9_whyNot_X9_wayOf
theorem dX9_whyNot_0 : decode cX9_whyNot 0 = .ok (.iload_n 1, 1) := by decide +kernel
theorem dX9_whyNot_1 : decode cX9_whyNot 1 = .ok (.i2l, 1) := by decide +kernel
theorem dX9_whyNot_2 : decode cX9_whyNot 2 = .ok (.lconst 0, 1) := by decide +kernel
theorem dX9_whyNot_3 : decode cX9_whyNot 3 = .ok (.ldc2_w 106, 3) := by decide +kernel
theorem dX9_whyNot_6 : decode cX9_whyNot 6 = .ok (.invokestatic 54, 3) := by decide +kernel
theorem dX9_whyNot_9 : decode cX9_whyNot 9 = .ok (.ifCond .eq 18, 3) := by decide +kernel
theorem dX9_whyNot_12 : decode cX9_whyNot 12 = .ok (.aload_n 0, 1) := by decide +kernel
theorem dX9_whyNot_13 : decode cX9_whyNot 13 = .ok (.iload_n 2, 1) := by decide +kernel
theorem dX9_whyNot_14 : decode cX9_whyNot 14 = .ok (.invokevirtual 108, 3) := by decide +kernel
theorem dX9_whyNot_17 : decode cX9_whyNot 17 = .ok (.ifCond .eq 10, 3) := by decide +kernel
theorem dX9_whyNot_20 : decode cX9_whyNot 20 = .ok (.iload_n 3, 1) := by decide +kernel
theorem dX9_whyNot_21 : decode cX9_whyNot 21 = .ok (.invokestatic 111, 3) := by decide +kernel
theorem dX9_whyNot_24 : decode cX9_whyNot 24 = .ok (.ifCond .ne 5, 3) := by decide +kernel
theorem dX9_whyNot_27 : decode cX9_whyNot 27 = .ok (.iconst 1, 1) := by decide +kernel
theorem dX9_whyNot_28 : decode cX9_whyNot 28 = .ok (.ireturn, 1) := by decide +kernel
theorem dX9_whyNot_29 : decode cX9_whyNot 29 = .ok (.aload_n 0, 1) := by decide +kernel
theorem dX9_whyNot_30 : decode cX9_whyNot 30 = .ok (.iload_n 2, 1) := by decide +kernel
theorem dX9_whyNot_31 : decode cX9_whyNot 31 = .ok (.bipush 10, 2) := by decide +kernel
theorem dX9_whyNot_33 : decode cX9_whyNot 33 = .ok (.idiv, 1) := by decide +kernel
theorem dX9_whyNot_34 : decode cX9_whyNot 34 = .ok (.iload_n 2, 1) := by decide +kernel
theorem dX9_whyNot_35 : decode cX9_whyNot 35 = .ok (.bipush 10, 2) := by decide +kernel
theorem dX9_whyNot_37 : decode cX9_whyNot 37 = .ok (.irem, 1) := by decide +kernel
theorem dX9_whyNot_38 : decode cX9_whyNot 38 = .ok (.invokevirtual 77, 3) := by decide +kernel
theorem dX9_whyNot_41 : decode cX9_whyNot 41 = .ok (.ifCond .ge 7, 3) := by decide +kernel
theorem dX9_whyNot_44 : decode cX9_whyNot 44 = .ok (.iconst 2, 1) := by decide +kernel
theorem dX9_whyNot_45 : decode cX9_whyNot 45 = .ok (.goto 19, 3) := by decide +kernel
theorem dX9_whyNot_48 : decode cX9_whyNot 48 = .ok (.aload_n 0, 1) := by decide +kernel
theorem dX9_whyNot_49 : decode cX9_whyNot 49 = .ok (.getfield 7, 3) := by decide +kernel
theorem dX9_whyNot_52 : decode cX9_whyNot 52 = .ok (.iconst 2, 1) := by decide +kernel
theorem dX9_whyNot_53 : decode cX9_whyNot 53 = .ok (.iaload, 1) := by decide +kernel
theorem dX9_whyNot_54 : decode cX9_whyNot 54 = .ok (.bipush 80, 2) := by decide +kernel
theorem dX9_whyNot_56 : decode cX9_whyNot 56 = .ok (.if_icmp .ne 7, 3) := by decide +kernel
theorem dX9_whyNot_59 : decode cX9_whyNot 59 = .ok (.iconst 4, 1) := by decide +kernel
theorem dX9_whyNot_60 : decode cX9_whyNot 60 = .ok (.goto 4, 3) := by decide +kernel
theorem dX9_whyNot_63 : decode cX9_whyNot 63 = .ok (.iconst 0, 1) := by decide +kernel
theorem dX9_whyNot_64 : decode cX9_whyNot 64 = .ok (.ireturn, 1) := by decide +kernel
set_option maxRecDepth 20000 in
theorem ggX9_sends_X9_knownBy : GoodIn wsX9_sends wsX9_knownBy := goodIn_r _ [6, 1, 7, 8, 9, 5, 10, 11, 12, 13, 14, 29, 30, 31, 32, 33, 34, 35, 36, 37, 38, 39, 40, 41, 42, 43, 44, 45, 46, 47, 48, 49, 50, 51] (by decide +kernel) (by decide +kernel)
set_option maxRecDepth 20000 in
theorem gX9_sends_X9_knownBy : GoodIn wsX9_sends (wsV RX9 114 RX9 yX9_knownBy wsX9_knownBy) := goodIn_app (goodIn_of _ (by decide +kernel)) ggX9_sends_X9_knownBy
set_option maxRecDepth 20000 in
theorem ggX9_sends_X9_wayOf : GoodIn wsX9_sends wsX9_wayOf := goodIn_r _ [18, 19, 20, 21, 22, 5, 23, 1, 29, 30, 31, 32, 33, 34, 35, 36, 37, 38, 39, 40, 41, 42, 43, 44, 45, 46, 47, 48, 49, 50, 51] (by decide +kernel) (by decide +kernel)
set_option maxRecDepth 20000 in
theorem gX9_sends_X9_wayOf : GoodIn wsX9_sends (wsV RX9 77 RX9 yX9_wayOf wsX9_wayOf) := goodIn_app (goodIn_of _ (by decide +kernel)) ggX9_sends_X9_wayOf
set_option maxRecDepth 20000 in
theorem ggX9_sends_X9_drawn : GoodIn wsX9_sends wsX9_drawn := goodIn_r _ [27, 1, 28, 29, 30, 31, 32, 33, 34, 35, 36, 37, 38, 39, 40, 41, 42, 43, 44, 45, 46, 47, 48, 49, 50, 51] (by decide +kernel) (by decide +kernel)
set_option maxRecDepth 20000 in
theorem gX9_sends_X9_drawn : GoodIn wsX9_sends (wsV RX9 118 RX9 yX9_drawn wsX9_drawn) := goodIn_app (goodIn_of _ (by decide +kernel)) ggX9_sends_X9_drawn
theorem dX9_sends_0 : decode cX9_sends 0 = .ok (.sipush 610, 3) := by decide +kernel
theorem dX9_sends_3 : decode cX9_sends 3 = .ok (.bipush 8, 2) := by decide +kernel
theorem dX9_sends_5 : decode cX9_sends 5 = .ok (.aload_n 0, 1) := by decide +kernel
theorem dX9_sends_6 : decode cX9_sends 6 = .ok (.getfield 7, 3) := by decide +kernel
theorem dX9_sends_9 : decode cX9_sends 9 = .ok (.iconst 2, 1) := by decide +kernel
theorem dX9_sends_10 : decode cX9_sends 10 = .ok (.iaload, 1) := by decide +kernel
theorem dX9_sends_11 : decode cX9_sends 11 = .ok (.imul, 1) := by decide +kernel
theorem dX9_sends_12 : decode cX9_sends 12 = .ok (.iadd, 1) := by decide +kernel
theorem dX9_sends_13 : decode cX9_sends 13 = .ok (.istore 4, 2) := by decide +kernel
theorem dX9_sends_15 : decode cX9_sends 15 = .ok (.iconst 1, 1) := by decide +kernel
theorem dX9_sends_16 : decode cX9_sends 16 = .ok (.aload_n 0, 1) := by decide +kernel
theorem dX9_sends_17 : decode cX9_sends 17 = .ok (.iload_n 2, 1) := by decide +kernel
theorem dX9_sends_18 : decode cX9_sends 18 = .ok (.bipush 10, 2) := by decide +kernel
theorem dX9_sends_20 : decode cX9_sends 20 = .ok (.idiv, 1) := by decide +kernel
theorem dX9_sends_21 : decode cX9_sends 21 = .ok (.iload_n 3, 1) := by decide +kernel
theorem dX9_sends_22 : decode cX9_sends 22 = .ok (.aload_n 0, 1) := by decide +kernel
theorem dX9_sends_23 : decode cX9_sends 23 = .ok (.getfield 7, 3) := by decide +kernel
theorem dX9_sends_26 : decode cX9_sends 26 = .ok (.iconst 0, 1) := by decide +kernel
theorem dX9_sends_27 : decode cX9_sends 27 = .ok (.iaload, 1) := by decide +kernel
theorem dX9_sends_28 : decode cX9_sends 28 = .ok (.invokevirtual 114, 3) := by decide +kernel
theorem dX9_sends_31 : decode cX9_sends 31 = .ok (.iadd, 1) := by decide +kernel
theorem dX9_sends_32 : decode cX9_sends 32 = .ok (.istore 5, 2) := by decide +kernel
theorem dX9_sends_34 : decode cX9_sends 34 = .ok (.aload_n 0, 1) := by decide +kernel
theorem dX9_sends_35 : decode cX9_sends 35 = .ok (.getfield 7, 3) := by decide +kernel
theorem dX9_sends_38 : decode cX9_sends 38 = .ok (.iload 4, 2) := by decide +kernel
theorem dX9_sends_40 : decode cX9_sends 40 = .ok (.iconst 0, 1) := by decide +kernel
theorem dX9_sends_41 : decode cX9_sends 41 = .ok (.iadd, 1) := by decide +kernel
theorem dX9_sends_42 : decode cX9_sends 42 = .ok (.iload_n 1, 1) := by decide +kernel
theorem dX9_sends_43 : decode cX9_sends 43 = .ok (.iastore, 1) := by decide +kernel
theorem dX9_sends_44 : decode cX9_sends 44 = .ok (.aload_n 0, 1) := by decide +kernel
theorem dX9_sends_45 : decode cX9_sends 45 = .ok (.getfield 7, 3) := by decide +kernel
theorem dX9_sends_48 : decode cX9_sends 48 = .ok (.iload 4, 2) := by decide +kernel
theorem dX9_sends_50 : decode cX9_sends 50 = .ok (.iconst 1, 1) := by decide +kernel
theorem dX9_sends_51 : decode cX9_sends 51 = .ok (.iadd, 1) := by decide +kernel
theorem dX9_sends_52 : decode cX9_sends 52 = .ok (.iload_n 2, 1) := by decide +kernel
theorem dX9_sends_53 : decode cX9_sends 53 = .ok (.bipush 10, 2) := by decide +kernel
theorem dX9_sends_55 : decode cX9_sends 55 = .ok (.idiv, 1) := by decide +kernel
theorem dX9_sends_56 : decode cX9_sends 56 = .ok (.iastore, 1) := by decide +kernel
theorem dX9_sends_57 : decode cX9_sends 57 = .ok (.aload_n 0, 1) := by decide +kernel
theorem dX9_sends_58 : decode cX9_sends 58 = .ok (.getfield 7, 3) := by decide +kernel
theorem dX9_sends_61 : decode cX9_sends 61 = .ok (.iload 4, 2) := by decide +kernel
theorem dX9_sends_63 : decode cX9_sends 63 = .ok (.iconst 2, 1) := by decide +kernel
theorem dX9_sends_64 : decode cX9_sends 64 = .ok (.iadd, 1) := by decide +kernel
theorem dX9_sends_65 : decode cX9_sends 65 = .ok (.iload_n 2, 1) := by decide +kernel
theorem dX9_sends_66 : decode cX9_sends 66 = .ok (.bipush 10, 2) := by decide +kernel
theorem dX9_sends_68 : decode cX9_sends 68 = .ok (.irem, 1) := by decide +kernel
theorem dX9_sends_69 : decode cX9_sends 69 = .ok (.iastore, 1) := by decide +kernel
theorem dX9_sends_70 : decode cX9_sends 70 = .ok (.aload_n 0, 1) := by decide +kernel
theorem dX9_sends_71 : decode cX9_sends 71 = .ok (.getfield 7, 3) := by decide +kernel
theorem dX9_sends_74 : decode cX9_sends 74 = .ok (.iload 4, 2) := by decide +kernel
theorem dX9_sends_76 : decode cX9_sends 76 = .ok (.iconst 3, 1) := by decide +kernel
theorem dX9_sends_77 : decode cX9_sends 77 = .ok (.iadd, 1) := by decide +kernel
theorem dX9_sends_78 : decode cX9_sends 78 = .ok (.iload_n 3, 1) := by decide +kernel
theorem dX9_sends_79 : decode cX9_sends 79 = .ok (.iastore, 1) := by decide +kernel
theorem dX9_sends_80 : decode cX9_sends 80 = .ok (.aload_n 0, 1) := by decide +kernel
theorem dX9_sends_81 : decode cX9_sends 81 = .ok (.getfield 7, 3) := by decide +kernel
theorem dX9_sends_84 : decode cX9_sends 84 = .ok (.iload 4, 2) := by decide +kernel
theorem dX9_sends_86 : decode cX9_sends 86 = .ok (.iconst 4, 1) := by decide +kernel
theorem dX9_sends_87 : decode cX9_sends 87 = .ok (.iadd, 1) := by decide +kernel
theorem dX9_sends_88 : decode cX9_sends 88 = .ok (.aload_n 0, 1) := by decide +kernel
theorem dX9_sends_89 : decode cX9_sends 89 = .ok (.getfield 7, 3) := by decide +kernel
theorem dX9_sends_92 : decode cX9_sends 92 = .ok (.iconst 0, 1) := by decide +kernel
theorem dX9_sends_93 : decode cX9_sends 93 = .ok (.iaload, 1) := by decide +kernel
theorem dX9_sends_94 : decode cX9_sends 94 = .ok (.iastore, 1) := by decide +kernel
theorem dX9_sends_95 : decode cX9_sends 95 = .ok (.aload_n 0, 1) := by decide +kernel
theorem dX9_sends_96 : decode cX9_sends 96 = .ok (.getfield 7, 3) := by decide +kernel
theorem dX9_sends_99 : decode cX9_sends 99 = .ok (.iload 4, 2) := by decide +kernel
theorem dX9_sends_101 : decode cX9_sends 101 = .ok (.iconst 5, 1) := by decide +kernel
theorem dX9_sends_102 : decode cX9_sends 102 = .ok (.iadd, 1) := by decide +kernel
theorem dX9_sends_103 : decode cX9_sends 103 = .ok (.aload_n 0, 1) := by decide +kernel
theorem dX9_sends_104 : decode cX9_sends 104 = .ok (.getfield 7, 3) := by decide +kernel
theorem dX9_sends_107 : decode cX9_sends 107 = .ok (.iconst 0, 1) := by decide +kernel
theorem dX9_sends_108 : decode cX9_sends 108 = .ok (.iaload, 1) := by decide +kernel
theorem dX9_sends_109 : decode cX9_sends 109 = .ok (.aload_n 0, 1) := by decide +kernel
theorem dX9_sends_110 : decode cX9_sends 110 = .ok (.iload_n 2, 1) := by decide +kernel
theorem dX9_sends_111 : decode cX9_sends 111 = .ok (.bipush 10, 2) := by decide +kernel
theorem dX9_sends_113 : decode cX9_sends 113 = .ok (.idiv, 1) := by decide +kernel
theorem dX9_sends_114 : decode cX9_sends 114 = .ok (.iload_n 2, 1) := by decide +kernel
theorem dX9_sends_115 : decode cX9_sends 115 = .ok (.bipush 10, 2) := by decide +kernel
theorem dX9_sends_117 : decode cX9_sends 117 = .ok (.irem, 1) := by decide +kernel
theorem dX9_sends_118 : decode cX9_sends 118 = .ok (.invokevirtual 77, 3) := by decide +kernel
theorem dX9_sends_121 : decode cX9_sends 121 = .ok (.iadd, 1) := by decide +kernel
theorem dX9_sends_122 : decode cX9_sends 122 = .ok (.iload_n 1, 1) := by decide +kernel
theorem dX9_sends_123 : decode cX9_sends 123 = .ok (.bipush 6, 2) := by decide +kernel
theorem dX9_sends_125 : decode cX9_sends 125 = .ok (.if_icmp .ne 7, 3) := by decide +kernel
theorem dX9_sends_128 : decode cX9_sends 128 = .ok (.iconst 2, 1) := by decide +kernel
theorem dX9_sends_129 : decode cX9_sends 129 = .ok (.goto 4, 3) := by decide +kernel
theorem dX9_sends_132 : decode cX9_sends 132 = .ok (.iconst 0, 1) := by decide +kernel
theorem dX9_sends_133 : decode cX9_sends 133 = .ok (.iadd, 1) := by decide +kernel
theorem dX9_sends_134 : decode cX9_sends 134 = .ok (.iastore, 1) := by decide +kernel
theorem dX9_sends_135 : decode cX9_sends 135 = .ok (.aload_n 0, 1) := by decide +kernel
theorem dX9_sends_136 : decode cX9_sends 136 = .ok (.getfield 7, 3) := by decide +kernel
theorem dX9_sends_139 : decode cX9_sends 139 = .ok (.iload 4, 2) := by decide +kernel
theorem dX9_sends_141 : decode cX9_sends 141 = .ok (.bipush 6, 2) := by decide +kernel
theorem dX9_sends_143 : decode cX9_sends 143 = .ok (.iadd, 1) := by decide +kernel
theorem dX9_sends_144 : decode cX9_sends 144 = .ok (.aload_n 0, 1) := by decide +kernel
theorem dX9_sends_145 : decode cX9_sends 145 = .ok (.getfield 7, 3) := by decide +kernel
theorem dX9_sends_148 : decode cX9_sends 148 = .ok (.iconst 5, 1) := by decide +kernel
theorem dX9_sends_149 : decode cX9_sends 149 = .ok (.iaload, 1) := by decide +kernel
theorem dX9_sends_150 : decode cX9_sends 150 = .ok (.iastore, 1) := by decide +kernel
theorem dX9_sends_151 : decode cX9_sends 151 = .ok (.aload_n 0, 1) := by decide +kernel
theorem dX9_sends_152 : decode cX9_sends 152 = .ok (.getfield 7, 3) := by decide +kernel
theorem dX9_sends_155 : decode cX9_sends 155 = .ok (.iload 4, 2) := by decide +kernel
theorem dX9_sends_157 : decode cX9_sends 157 = .ok (.bipush 7, 2) := by decide +kernel
theorem dX9_sends_159 : decode cX9_sends 159 = .ok (.iadd, 1) := by decide +kernel
theorem dX9_sends_160 : decode cX9_sends 160 = .ok (.iload 5, 2) := by decide +kernel
theorem dX9_sends_162 : decode cX9_sends 162 = .ok (.iastore, 1) := by decide +kernel
theorem dX9_sends_163 : decode cX9_sends 163 = .ok (.aload_n 0, 1) := by decide +kernel
theorem dX9_sends_164 : decode cX9_sends 164 = .ok (.invokevirtual 118, 3) := by decide +kernel
theorem dX9_sends_167 : decode cX9_sends 167 = .ok (.aload_n 0, 1) := by decide +kernel
theorem dX9_sends_168 : decode cX9_sends 168 = .ok (.getfield 7, 3) := by decide +kernel
theorem dX9_sends_171 : decode cX9_sends 171 = .ok (.bipush 8, 2) := by decide +kernel
theorem dX9_sends_173 : decode cX9_sends 173 = .ok (.iaload, 1) := by decide +kernel
theorem dX9_sends_174 : decode cX9_sends 174 = .ok (.irem, 1) := by decide +kernel
theorem dX9_sends_175 : decode cX9_sends 175 = .ok (.aload_n 0, 1) := by decide +kernel
theorem dX9_sends_176 : decode cX9_sends 176 = .ok (.getfield 7, 3) := by decide +kernel
theorem dX9_sends_179 : decode cX9_sends 179 = .ok (.bipush 7, 2) := by decide +kernel
theorem dX9_sends_181 : decode cX9_sends 181 = .ok (.iaload, 1) := by decide +kernel
theorem dX9_sends_182 : decode cX9_sends 182 = .ok (.if_icmp .ge 13, 3) := by decide +kernel
theorem dX9_sends_185 : decode cX9_sends 185 = .ok (.aload_n 0, 1) := by decide +kernel
theorem dX9_sends_186 : decode cX9_sends 186 = .ok (.getfield 7, 3) := by decide +kernel
theorem dX9_sends_189 : decode cX9_sends 189 = .ok (.iload 4, 2) := by decide +kernel
theorem dX9_sends_191 : decode cX9_sends 191 = .ok (.iconst 5, 1) := by decide +kernel
theorem dX9_sends_192 : decode cX9_sends 192 = .ok (.iadd, 1) := by decide +kernel
theorem dX9_sends_193 : decode cX9_sends 193 = .ok (.iconst (-1), 1) := by decide +kernel
theorem dX9_sends_194 : decode cX9_sends 194 = .ok (.iastore, 1) := by decide +kernel
theorem dX9_sends_195 : decode cX9_sends 195 = .ok (.aload_n 0, 1) := by decide +kernel
theorem dX9_sends_196 : decode cX9_sends 196 = .ok (.getfield 7, 3) := by decide +kernel
theorem dX9_sends_199 : decode cX9_sends 199 = .ok (.iconst 2, 1) := by decide +kernel
theorem dX9_sends_200 : decode cX9_sends 200 = .ok (.dup2, 1) := by decide +kernel
theorem dX9_sends_201 : decode cX9_sends 201 = .ok (.iaload, 1) := by decide +kernel
theorem dX9_sends_202 : decode cX9_sends 202 = .ok (.iconst 1, 1) := by decide +kernel
theorem dX9_sends_203 : decode cX9_sends 203 = .ok (.iadd, 1) := by decide +kernel
theorem dX9_sends_204 : decode cX9_sends 204 = .ok (.iastore, 1) := by decide +kernel
theorem dX9_sends_205 : decode cX9_sends 205 = .ok (.return_, 1) := by decide +kernel
set_option maxRecDepth 20000 in
theorem ggX9_word_X9_whyNot : GoodIn wsX9_word wsX9_whyNot := goodIn_r _ [6, 7, 1, 8, 9, 5, 10, 11, 12, 13, 14, 15, 16, 17, 18, 19, 20, 21, 22, 23, 24, 25, 26, 27, 28, 29, 30, 31, 32, 33, 34, 35, 63, 64, 65, 66, 67, 68, 69, 70, 71, 72, 73, 74, 75, 76, 77, 78, 79, 80, 81, 82, 83, 84, 85] (by decide +kernel) (by decide +kernel)
set_option maxRecDepth 20000 in
theorem gX9_word_X9_whyNot : GoodIn wsX9_word (wsV RX9 122 RX9 yX9_whyNot wsX9_whyNot) := goodIn_app (goodIn_of _ (by decide +kernel)) ggX9_word_X9_whyNot
set_option maxRecDepth 20000 in
theorem ggX9_word_X9_finds : GoodIn wsX9_word wsX9_finds := goodIn_r _ [39, 40, 41, 63, 64, 65, 66, 67, 68, 69, 70, 71, 72, 73, 74, 75, 76, 77, 78, 79, 80, 81, 82, 83, 84, 85] (by decide +kernel) (by decide +kernel)
set_option maxRecDepth 20000 in
theorem gX9_word_X9_finds : GoodIn wsX9_word (wsV RX9 68 RX9 yX9_finds wsX9_finds) := goodIn_app (goodIn_of _ (by decide +kernel)) ggX9_word_X9_finds
set_option maxRecDepth 20000 in
theorem ggX9_word_X9_sends : GoodIn wsX9_word wsX9_sends := goodIn_r _ [45, 1, 46, 47, 48, 5, 49, 50, 51, 52, 53, 54, 55, 56, 57, 27, 28, 29, 30, 31, 32, 33, 34, 35, 58, 59, 60, 61, 62, 63, 64, 65, 66, 67, 68, 69, 70, 71, 72, 73, 74, 75, 76, 77, 78, 79, 80, 81, 82, 83, 84, 85] (by decide +kernel) (by decide +kernel)
set_option maxRecDepth 20000 in
theorem gX9_word_X9_sends : GoodIn wsX9_word (wsV RX9 125 RX9 yX9_sends wsX9_sends) := goodIn_app (goodIn_of _ (by decide +kernel)) ggX9_word_X9_sends
theorem dX9_word_0 : decode cX9_word 0 = .ok (.aload_n 0, 1) := by decide +kernel
theorem dX9_word_1 : decode cX9_word 1 = .ok (.iload_n 1, 1) := by decide +kernel
theorem dX9_word_2 : decode cX9_word 2 = .ok (.iload_n 2, 1) := by decide +kernel
theorem dX9_word_3 : decode cX9_word 3 = .ok (.iload_n 3, 1) := by decide +kernel
theorem dX9_word_4 : decode cX9_word 4 = .ok (.invokevirtual 122, 3) := by decide +kernel
theorem dX9_word_7 : decode cX9_word 7 = .ok (.istore 4, 2) := by decide +kernel
theorem dX9_word_9 : decode cX9_word 9 = .ok (.iload 4, 2) := by decide +kernel
theorem dX9_word_11 : decode cX9_word 11 = .ok (.ifCond .eq 10, 3) := by decide +kernel
theorem dX9_word_14 : decode cX9_word 14 = .ok (.aload_n 0, 1) := by decide +kernel
theorem dX9_word_15 : decode cX9_word 15 = .ok (.iload 4, 2) := by decide +kernel
theorem dX9_word_17 : decode cX9_word 17 = .ok (.invokevirtual 68, 3) := by decide +kernel
theorem dX9_word_20 : decode cX9_word 20 = .ok (.ireturn, 1) := by decide +kernel
theorem dX9_word_21 : decode cX9_word 21 = .ok (.aload_n 0, 1) := by decide +kernel
theorem dX9_word_22 : decode cX9_word 22 = .ok (.iload_n 1, 1) := by decide +kernel
theorem dX9_word_23 : decode cX9_word 23 = .ok (.iload_n 2, 1) := by decide +kernel
theorem dX9_word_24 : decode cX9_word 24 = .ok (.iload_n 3, 1) := by decide +kernel
theorem dX9_word_25 : decode cX9_word 25 = .ok (.invokevirtual 125, 3) := by decide +kernel
theorem dX9_word_28 : decode cX9_word 28 = .ok (.aload_n 0, 1) := by decide +kernel
theorem dX9_word_29 : decode cX9_word 29 = .ok (.getfield 7, 3) := by decide +kernel
theorem dX9_word_32 : decode cX9_word 32 = .ok (.iconst 2, 1) := by decide +kernel
theorem dX9_word_33 : decode cX9_word 33 = .ok (.iaload, 1) := by decide +kernel
theorem dX9_word_34 : decode cX9_word 34 = .ok (.iconst 1, 1) := by decide +kernel
theorem dX9_word_35 : decode cX9_word 35 = .ok (.isub, 1) := by decide +kernel
theorem dX9_word_36 : decode cX9_word 36 = .ok (.ireturn, 1) := by decide +kernel
set_option maxRecDepth 20000 in
theorem ggX9_ofWord_X9_isWord : GoodIn wsX9_ofWord wsX9_isWord := goodIn_r _ [6, 7, 8, 9, 5, 10, 21, 22, 23, 24, 25, 26, 27, 28, 29, 30, 31, 32, 33, 34, 35, 36, 37, 38, 39, 40, 41, 42, 43] (by decide +kernel) (by decide +kernel)
set_option maxRecDepth 20000 in
theorem gX9_ofWord_X9_isWord : GoodIn wsX9_ofWord (wsV RX9 129 RX9 yX9_isWord wsX9_isWord) := goodIn_app (goodIn_of _ (by decide +kernel)) ggX9_ofWord_X9_isWord
set_option maxRecDepth 20000 in
theorem ggX9_ofWord_X9_in : GoodIn wsX9_ofWord wsX9_in := goodIn_r _ [10] (by decide +kernel) (by decide +kernel)
set_option maxRecDepth 20000 in
theorem gX9_ofWord_X9_in : GoodIn wsX9_ofWord (va_wsS RX9 54 yX9_in wsX9_in) := goodIn_app (goodIn_of _ (by decide +kernel)) ggX9_ofWord_X9_in
set_option maxRecDepth 20000 in
theorem ggX9_ofWord_X9_wo : GoodIn wsX9_ofWord wsX9_wo := goodIn_r _ [14, 7, 21, 22, 23, 24, 25, 26, 27, 28, 29, 30, 31, 32, 33, 34, 35, 36, 37, 38, 39, 40, 41, 42, 43] (by decide +kernel) (by decide +kernel)
set_option maxRecDepth 20000 in
theorem gX9_ofWord_X9_wo : GoodIn wsX9_ofWord (wsV RX9 99 RX9 yX9_wo wsX9_wo) := goodIn_app (goodIn_of _ (by decide +kernel)) ggX9_ofWord_X9_wo
set_option maxRecDepth 20000 in
theorem ggX9_ofWord_X9_finds : GoodIn wsX9_ofWord wsX9_finds := goodIn_r _ [18, 19, 20, 21, 22, 23, 24, 25, 26, 27, 28, 29, 30, 31, 32, 33, 34, 35, 36, 37, 38, 39, 40, 41, 42, 43] (by decide +kernel) (by decide +kernel)
set_option maxRecDepth 20000 in
theorem gX9_ofWord_X9_finds : GoodIn wsX9_ofWord (wsV RX9 68 RX9 yX9_finds wsX9_finds) := goodIn_app (goodIn_of _ (by decide +kernel)) ggX9_ofWord_X9_finds
theorem dX9_ofWord_0 : decode cX9_ofWord 0 = .ok (.aload_n 0, 1) := by decide +kernel
theorem dX9_ofWord_1 : decode cX9_ofWord 1 = .ok (.iload_n 1, 1) := by decide +kernel
theorem dX9_ofWord_2 : decode cX9_ofWord 2 = .ok (.invokevirtual 129, 3) := by decide +kernel
theorem dX9_ofWord_5 : decode cX9_ofWord 5 = .ok (.ifCond .eq 24, 3) := by decide +kernel
theorem dX9_ofWord_8 : decode cX9_ofWord 8 = .ok (.iload_n 2, 1) := by decide +kernel
theorem dX9_ofWord_9 : decode cX9_ofWord 9 = .ok (.i2l, 1) := by decide +kernel
theorem dX9_ofWord_10 : decode cX9_ofWord 10 = .ok (.lconst 0, 1) := by decide +kernel
theorem dX9_ofWord_11 : decode cX9_ofWord 11 = .ok (.ldc2_w 132, 3) := by decide +kernel
theorem dX9_ofWord_14 : decode cX9_ofWord 14 = .ok (.invokestatic 54, 3) := by decide +kernel
theorem dX9_ofWord_17 : decode cX9_ofWord 17 = .ok (.ifCond .eq 12, 3) := by decide +kernel
theorem dX9_ofWord_20 : decode cX9_ofWord 20 = .ok (.aload_n 0, 1) := by decide +kernel
theorem dX9_ofWord_21 : decode cX9_ofWord 21 = .ok (.iload_n 1, 1) := by decide +kernel
theorem dX9_ofWord_22 : decode cX9_ofWord 22 = .ok (.iload_n 2, 1) := by decide +kernel
theorem dX9_ofWord_23 : decode cX9_ofWord 23 = .ok (.invokevirtual 99, 3) := by decide +kernel
theorem dX9_ofWord_26 : decode cX9_ofWord 26 = .ok (.goto 8, 3) := by decide +kernel
theorem dX9_ofWord_29 : decode cX9_ofWord 29 = .ok (.aload_n 0, 1) := by decide +kernel
theorem dX9_ofWord_30 : decode cX9_ofWord 30 = .ok (.iconst 1, 1) := by decide +kernel
theorem dX9_ofWord_31 : decode cX9_ofWord 31 = .ok (.invokevirtual 68, 3) := by decide +kernel
theorem dX9_ofWord_34 : decode cX9_ofWord 34 = .ok (.ireturn, 1) := by decide +kernel
set_option maxRecDepth 20000 in
theorem ggX9_lose_X9_isWord : GoodIn wsX9_lose wsX9_isWord := goodIn_r _ [6, 1, 7, 8, 5, 9, 20, 21, 22, 23, 24, 25, 26, 27, 28, 29, 30, 31, 32, 33, 34, 35, 36, 37, 38, 39, 40, 41, 42] (by decide +kernel) (by decide +kernel)
set_option maxRecDepth 20000 in
theorem gX9_lose_X9_isWord : GoodIn wsX9_lose (wsV RX9 129 RX9 yX9_isWord wsX9_isWord) := goodIn_app (goodIn_of _ (by decide +kernel)) ggX9_lose_X9_isWord
set_option maxRecDepth 20000 in
theorem ggX9_lose_X9_finds : GoodIn wsX9_lose wsX9_finds := goodIn_r _ [13, 14, 15, 20, 21, 22, 23, 24, 25, 26, 27, 28, 29, 30, 31, 32, 33, 34, 35, 36, 37, 38, 39, 40, 41, 42] (by decide +kernel) (by decide +kernel)
set_option maxRecDepth 20000 in
theorem gX9_lose_X9_finds : GoodIn wsX9_lose (wsV RX9 68 RX9 yX9_finds wsX9_finds) := goodIn_app (goodIn_of _ (by decide +kernel)) ggX9_lose_X9_finds
set_option maxRecDepth 20000 in
theorem ggX9_lose_X9_wo : GoodIn wsX9_lose wsX9_wo := goodIn_r _ [19, 1, 20, 21, 22, 23, 24, 25, 26, 27, 28, 29, 30, 31, 32, 33, 34, 35, 36, 37, 38, 39, 40, 41, 42] (by decide +kernel) (by decide +kernel)
set_option maxRecDepth 20000 in
theorem gX9_lose_X9_wo : GoodIn wsX9_lose (wsV RX9 99 RX9 yX9_wo wsX9_wo) := goodIn_app (goodIn_of _ (by decide +kernel)) ggX9_lose_X9_wo
theorem dX9_lose_0 : decode cX9_lose 0 = .ok (.aload_n 0, 1) := by decide +kernel
theorem dX9_lose_1 : decode cX9_lose 1 = .ok (.iload_n 1, 1) := by decide +kernel
theorem dX9_lose_2 : decode cX9_lose 2 = .ok (.invokevirtual 129, 3) := by decide +kernel
theorem dX9_lose_5 : decode cX9_lose 5 = .ok (.ifCond .ne 9, 3) := by decide +kernel
theorem dX9_lose_8 : decode cX9_lose 8 = .ok (.aload_n 0, 1) := by decide +kernel
theorem dX9_lose_9 : decode cX9_lose 9 = .ok (.iconst 1, 1) := by decide +kernel
theorem dX9_lose_10 : decode cX9_lose 10 = .ok (.invokevirtual 68, 3) := by decide +kernel
theorem dX9_lose_13 : decode cX9_lose 13 = .ok (.ireturn, 1) := by decide +kernel
theorem dX9_lose_14 : decode cX9_lose 14 = .ok (.aload_n 0, 1) := by decide +kernel
theorem dX9_lose_15 : decode cX9_lose 15 = .ok (.iload_n 1, 1) := by decide +kernel
theorem dX9_lose_16 : decode cX9_lose 16 = .ok (.iconst 5, 1) := by decide +kernel
theorem dX9_lose_17 : decode cX9_lose 17 = .ok (.invokevirtual 99, 3) := by decide +kernel
theorem dX9_lose_20 : decode cX9_lose 20 = .ok (.aload_n 0, 1) := by decide +kernel
theorem dX9_lose_21 : decode cX9_lose 21 = .ok (.getfield 7, 3) := by decide +kernel
theorem dX9_lose_24 : decode cX9_lose 24 = .ok (.iconst 0, 1) := by decide +kernel
theorem dX9_lose_25 : decode cX9_lose 25 = .ok (.iaload, 1) := by decide +kernel
theorem dX9_lose_26 : decode cX9_lose 26 = .ok (.if_icmp .gt 9, 3) := by decide +kernel
theorem dX9_lose_29 : decode cX9_lose 29 = .ok (.aload_n 0, 1) := by decide +kernel
theorem dX9_lose_30 : decode cX9_lose 30 = .ok (.iconst 3, 1) := by decide +kernel
theorem dX9_lose_31 : decode cX9_lose 31 = .ok (.invokevirtual 68, 3) := by decide +kernel
theorem dX9_lose_34 : decode cX9_lose 34 = .ok (.ireturn, 1) := by decide +kernel
theorem dX9_lose_35 : decode cX9_lose 35 = .ok (.aload_n 0, 1) := by decide +kernel
theorem dX9_lose_36 : decode cX9_lose 36 = .ok (.getfield 7, 3) := by decide +kernel
theorem dX9_lose_39 : decode cX9_lose 39 = .ok (.sipush 610, 3) := by decide +kernel
theorem dX9_lose_42 : decode cX9_lose 42 = .ok (.bipush 8, 2) := by decide +kernel
theorem dX9_lose_44 : decode cX9_lose 44 = .ok (.iload_n 1, 1) := by decide +kernel
theorem dX9_lose_45 : decode cX9_lose 45 = .ok (.imul, 1) := by decide +kernel
theorem dX9_lose_46 : decode cX9_lose 46 = .ok (.iadd, 1) := by decide +kernel
theorem dX9_lose_47 : decode cX9_lose 47 = .ok (.iconst 5, 1) := by decide +kernel
theorem dX9_lose_48 : decode cX9_lose 48 = .ok (.iadd, 1) := by decide +kernel
theorem dX9_lose_49 : decode cX9_lose 49 = .ok (.iconst (-1), 1) := by decide +kernel
theorem dX9_lose_50 : decode cX9_lose 50 = .ok (.iastore, 1) := by decide +kernel
theorem dX9_lose_51 : decode cX9_lose 51 = .ok (.iconst 1, 1) := by decide +kernel
theorem dX9_lose_52 : decode cX9_lose 52 = .ok (.ireturn, 1) := by decide +kernel
theorem dX9_isOf_0 : decode cX9_isOf 0 = .ok (.iload_n 1, 1) := by decide +kernel
