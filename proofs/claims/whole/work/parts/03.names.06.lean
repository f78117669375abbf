theorem dX9_isOf_1 : decode cX9_isOf 1 = .ok (.ifCond .eq 28, 3) := by decide +kernel
theorem dX9_isOf_4 : decode cX9_isOf 4 = .ok (.iload_n 1, 1) := by decide +kernel
theorem dX9_isOf_5 : decode cX9_isOf 5 = .ok (.iload_n 0, 1) := by decide +kernel
theorem dX9_isOf_6 : decode cX9_isOf 6 = .ok (.if_icmp .eq 23, 3) := by decide +kernel
theorem dX9_isOf_9 : decode cX9_isOf 9 = .ok (.iload_n 1, 1) := by decide +kernel
theorem dX9_isOf_10 : decode cX9_isOf 10 = .ok (.iconst 1, 1) := by decide +kernel
theorem dX9_isOf_11 : decode cX9_isOf 11 = .ok (.if_icmp .ne 8, 3) := by decide +kernel
theorem dX9_isOf_14 : decode cX9_isOf 14 = .ok (.iload_n 0, 1) := by decide +kernel
theorem dX9_isOf_15 : decode cX9_isOf 15 = .ok (.iconst 2, 1) := by decide +kernel
theorem dX9_isOf_16 : decode cX9_isOf 16 = .ok (.if_icmp .eq 13, 3) := by decide +kernel
theorem dX9_isOf_19 : decode cX9_isOf 19 = .ok (.iload_n 1, 1) := by decide +kernel
theorem dX9_isOf_20 : decode cX9_isOf 20 = .ok (.iconst 3, 1) := by decide +kernel
theorem dX9_isOf_21 : decode cX9_isOf 21 = .ok (.if_icmp .ne 12, 3) := by decide +kernel
theorem dX9_isOf_24 : decode cX9_isOf 24 = .ok (.iload_n 0, 1) := by decide +kernel
theorem dX9_isOf_25 : decode cX9_isOf 25 = .ok (.iconst 5, 1) := by decide +kernel
theorem dX9_isOf_26 : decode cX9_isOf 26 = .ok (.if_icmp .ne 7, 3) := by decide +kernel
theorem dX9_isOf_29 : decode cX9_isOf 29 = .ok (.iconst 1, 1) := by decide +kernel
theorem dX9_isOf_30 : decode cX9_isOf 30 = .ok (.goto 4, 3) := by decide +kernel
theorem dX9_isOf_33 : decode cX9_isOf 33 = .ok (.iconst 0, 1) := by decide +kernel
theorem dX9_isOf_34 : decode cX9_isOf 34 = .ok (.ireturn, 1) := by decide +kernel
set_option maxRecDepth 20000 in
theorem ggX9_as_X9_isWord : GoodIn wsX9_as wsX9_isWord := goodIn_r _ [6, 7, 8, 9, 5, 10, 24, 25, 26, 27, 28, 29, 30, 31, 32, 33, 34, 35, 36, 37, 38, 39, 40, 41, 42, 43, 44, 45, 46] (by decide +kernel) (by decide +kernel)
set_option maxRecDepth 20000 in
theorem gX9_as_X9_isWord : GoodIn wsX9_as (wsV RX9 129 RX9 yX9_isWord wsX9_isWord) := goodIn_app (goodIn_of _ (by decide +kernel)) ggX9_as_X9_isWord
set_option maxRecDepth 20000 in
theorem ggX9_as_X9_in : GoodIn wsX9_as wsX9_in := goodIn_r _ [10] (by decide +kernel) (by decide +kernel)
set_option maxRecDepth 20000 in
theorem gX9_as_X9_in : GoodIn wsX9_as (va_wsS RX9 54 yX9_in wsX9_in) := goodIn_app (goodIn_of _ (by decide +kernel)) ggX9_as_X9_in
set_option maxRecDepth 20000 in
theorem ggX9_as_X9_finds : GoodIn wsX9_as wsX9_finds := goodIn_r _ [14, 15, 16, 24, 25, 26, 27, 28, 29, 30, 31, 32, 33, 34, 35, 36, 37, 38, 39, 40, 41, 42, 43, 44, 45, 46] (by decide +kernel) (by decide +kernel)
set_option maxRecDepth 20000 in
theorem gX9_as_X9_finds : GoodIn wsX9_as (wsV RX9 68 RX9 yX9_finds wsX9_finds) := goodIn_app (goodIn_of _ (by decide +kernel)) ggX9_as_X9_finds
set_option maxRecDepth 20000 in
theorem ggX9_as_X9_wo : GoodIn wsX9_as wsX9_wo := goodIn_r _ [20, 7, 24, 25, 26, 27, 28, 29, 30, 31, 32, 33, 34, 35, 36, 37, 38, 39, 40, 41, 42, 43, 44, 45, 46] (by decide +kernel) (by decide +kernel)
set_option maxRecDepth 20000 in
theorem gX9_as_X9_wo : GoodIn wsX9_as (wsV RX9 99 RX9 yX9_wo wsX9_wo) := goodIn_app (goodIn_of _ (by decide +kernel)) ggX9_as_X9_wo
set_option maxRecDepth 20000 in
theorem ggX9_as_X9_isOf : GoodIn wsX9_as wsX9_isOf := goodIn_r _ [23] (by decide +kernel) (by decide +kernel)
set_option maxRecDepth 20000 in
theorem gX9_as_X9_isOf : GoodIn wsX9_as (va_wsS RX9 134 yX9_isOf wsX9_isOf) := goodIn_app (goodIn_of _ (by decide +kernel)) ggX9_as_X9_isOf
theorem dX9_as_0 : decode cX9_as 0 = .ok (.aload_n 0, 1) := by decide +kernel
theorem dX9_as_1 : decode cX9_as 1 = .ok (.iload_n 1, 1) := by decide +kernel
theorem dX9_as_2 : decode cX9_as 2 = .ok (.invokevirtual 129, 3) := by decide +kernel
theorem dX9_as_5 : decode cX9_as 5 = .ok (.ifCond .eq 15, 3) := by decide +kernel
theorem dX9_as_8 : decode cX9_as 8 = .ok (.iload_n 2, 1) := by decide +kernel
theorem dX9_as_9 : decode cX9_as 9 = .ok (.i2l, 1) := by decide +kernel
theorem dX9_as_10 : decode cX9_as 10 = .ok (.lconst 0, 1) := by decide +kernel
theorem dX9_as_11 : decode cX9_as 11 = .ok (.ldc2_w 106, 3) := by decide +kernel
theorem dX9_as_14 : decode cX9_as 14 = .ok (.invokestatic 54, 3) := by decide +kernel
theorem dX9_as_17 : decode cX9_as 17 = .ok (.ifCond .ne 9, 3) := by decide +kernel
theorem dX9_as_20 : decode cX9_as 20 = .ok (.aload_n 0, 1) := by decide +kernel
theorem dX9_as_21 : decode cX9_as 21 = .ok (.iconst 1, 1) := by decide +kernel
theorem dX9_as_22 : decode cX9_as 22 = .ok (.invokevirtual 68, 3) := by decide +kernel
theorem dX9_as_25 : decode cX9_as 25 = .ok (.ireturn, 1) := by decide +kernel
theorem dX9_as_26 : decode cX9_as 26 = .ok (.aload_n 0, 1) := by decide +kernel
theorem dX9_as_27 : decode cX9_as 27 = .ok (.iload_n 1, 1) := by decide +kernel
theorem dX9_as_28 : decode cX9_as 28 = .ok (.iconst 0, 1) := by decide +kernel
theorem dX9_as_29 : decode cX9_as 29 = .ok (.invokevirtual 99, 3) := by decide +kernel
theorem dX9_as_32 : decode cX9_as 32 = .ok (.iload_n 2, 1) := by decide +kernel
theorem dX9_as_33 : decode cX9_as 33 = .ok (.invokestatic 134, 3) := by decide +kernel
theorem dX9_as_36 : decode cX9_as 36 = .ok (.ifCond .eq 13, 3) := by decide +kernel
theorem dX9_as_39 : decode cX9_as 39 = .ok (.aload_n 0, 1) := by decide +kernel
theorem dX9_as_40 : decode cX9_as 40 = .ok (.iload_n 1, 1) := by decide +kernel
theorem dX9_as_41 : decode cX9_as 41 = .ok (.bipush 6, 2) := by decide +kernel
theorem dX9_as_43 : decode cX9_as 43 = .ok (.invokevirtual 99, 3) := by decide +kernel
theorem dX9_as_46 : decode cX9_as 46 = .ok (.goto 8, 3) := by decide +kernel
theorem dX9_as_49 : decode cX9_as 49 = .ok (.aload_n 0, 1) := by decide +kernel
theorem dX9_as_50 : decode cX9_as 50 = .ok (.iconst 5, 1) := by decide +kernel
theorem dX9_as_51 : decode cX9_as 51 = .ok (.invokevirtual 68, 3) := by decide +kernel
theorem dX9_as_54 : decode cX9_as 54 = .ok (.ireturn, 1) := by decide +kernel
set_option maxRecDepth 20000 in
theorem ggX9_words_X9_isSheet : GoodIn wsX9_words wsX9_isSheet := goodIn_r _ [7, 8, 9, 10, 6, 11] (by decide +kernel) (by decide +kernel)
set_option maxRecDepth 20000 in
theorem gX9_words_X9_isSheet : GoodIn wsX9_words (va_wsS RX9 137 yX9_isSheet wsX9_isSheet) := goodIn_app (goodIn_of _ (by decide +kernel)) ggX9_words_X9_isSheet
set_option maxRecDepth 20000 in
theorem ggX9_words_X9_finds : GoodIn wsX9_words wsX9_finds := goodIn_r _ [15, 16, 17, 69, 70, 71, 72, 73, 74, 75, 76, 77, 78, 79, 80, 81, 82, 83, 84, 85, 86, 87, 88, 89, 90, 91] (by decide +kernel) (by decide +kernel)
set_option maxRecDepth 20000 in
theorem gX9_words_X9_finds : GoodIn wsX9_words (wsV RX9 68 RX9 yX9_finds wsX9_finds) := goodIn_app (goodIn_of _ (by decide +kernel)) ggX9_words_X9_finds
set_option maxRecDepth 20000 in
theorem ggX9_words_X9_whyNot : GoodIn wsX9_words wsX9_whyNot := goodIn_r _ [21, 22, 23, 9, 10, 6, 11, 24, 25, 26, 27, 28, 29, 30, 31, 32, 33, 34, 35, 36, 37, 38, 8, 39, 40, 41, 42, 43, 44, 45, 46, 47, 69, 70, 71, 72, 73, 74, 75, 76, 77, 78, 79, 80, 81, 82, 83, 84, 85, 86, 87, 88, 89, 90, 91] (by decide +kernel) (by decide +kernel)
set_option maxRecDepth 20000 in
theorem gX9_words_X9_whyNot : GoodIn wsX9_words (wsV RX9 122 RX9 yX9_whyNot wsX9_whyNot) := goodIn_app (goodIn_of _ (by decide +kernel)) ggX9_words_X9_whyNot
set_option maxRecDepth 20000 in
theorem ggX9_words_X9_sends : GoodIn wsX9_words wsX9_sends := goodIn_r _ [51, 23, 52, 53, 54, 6, 55, 56, 57, 58, 59, 60, 61, 62, 63, 39, 40, 41, 42, 43, 44, 45, 46, 47, 64, 65, 66, 67, 68, 69, 70, 71, 72, 73, 74, 75, 76, 77, 78, 79, 80, 81, 82, 83, 84, 85, 86, 87, 88, 89, 90, 91] (by decide +kernel) (by decide +kernel)
set_option maxRecDepth 20000 in
theorem gX9_words_X9_sends : GoodIn wsX9_words (wsV RX9 125 RX9 yX9_sends wsX9_sends) := goodIn_app (goodIn_of _ (by decide +kernel)) ggX9_words_X9_sends
theorem dX9_words_0 : decode cX9_words 0 = .ok (.iload_n 1, 1) := by decide +kernel
theorem dX9_words_1 : decode cX9_words 1 = .ok (.invokestatic 137, 3) := by decide +kernel
theorem dX9_words_4 : decode cX9_words 4 = .ok (.ifCond .ne 9, 3) := by decide +kernel
theorem dX9_words_7 : decode cX9_words 7 = .ok (.aload_n 0, 1) := by decide +kernel
theorem dX9_words_8 : decode cX9_words 8 = .ok (.iconst 1, 1) := by decide +kernel
theorem dX9_words_9 : decode cX9_words 9 = .ok (.invokevirtual 68, 3) := by decide +kernel
theorem dX9_words_12 : decode cX9_words 12 = .ok (.ireturn, 1) := by decide +kernel
theorem dX9_words_13 : decode cX9_words 13 = .ok (.aload_n 0, 1) := by decide +kernel
theorem dX9_words_14 : decode cX9_words 14 = .ok (.getfield 41, 3) := by decide +kernel
theorem dX9_words_17 : decode cX9_words 17 = .ok (.iload_n 1, 1) := by decide +kernel
theorem dX9_words_18 : decode cX9_words 18 = .ok (.iaload, 1) := by decide +kernel
theorem dX9_words_19 : decode cX9_words 19 = .ok (.ifCond .ne 9, 3) := by decide +kernel
theorem dX9_words_22 : decode cX9_words 22 = .ok (.aload_n 0, 1) := by decide +kernel
theorem dX9_words_23 : decode cX9_words 23 = .ok (.iconst 2, 1) := by decide +kernel
theorem dX9_words_24 : decode cX9_words 24 = .ok (.invokevirtual 68, 3) := by decide +kernel
theorem dX9_words_27 : decode cX9_words 27 = .ok (.ireturn, 1) := by decide +kernel
theorem dX9_words_28 : decode cX9_words 28 = .ok (.iconst 0, 1) := by decide +kernel
theorem dX9_words_29 : decode cX9_words 29 = .ok (.istore_n 2, 1) := by decide +kernel
theorem dX9_words_30 : decode cX9_words 30 = .ok (.bipush 40, 2) := by decide +kernel
theorem dX9_words_32 : decode cX9_words 32 = .ok (.iload_n 1, 1) := by decide +kernel
theorem dX9_words_33 : decode cX9_words 33 = .ok (.imul, 1) := by decide +kernel
theorem dX9_words_34 : decode cX9_words 34 = .ok (.istore_n 3, 1) := by decide +kernel
theorem dX9_words_35 : decode cX9_words 35 = .ok (.iconst 3, 1) := by decide +kernel
theorem dX9_words_36 : decode cX9_words 36 = .ok (.iload_n 2, 1) := by decide +kernel
theorem dX9_words_37 : decode cX9_words 37 = .ok (.imul, 1) := by decide +kernel
theorem dX9_words_38 : decode cX9_words 38 = .ok (.iconst 3, 1) := by decide +kernel
theorem dX9_words_39 : decode cX9_words 39 = .ok (.iadd, 1) := by decide +kernel
theorem dX9_words_40 : decode cX9_words 40 = .ok (.aload_n 0, 1) := by decide +kernel
theorem dX9_words_41 : decode cX9_words 41 = .ok (.getfield 44, 3) := by decide +kernel
theorem dX9_words_44 : decode cX9_words 44 = .ok (.iload_n 1, 1) := by decide +kernel
theorem dX9_words_45 : decode cX9_words 45 = .ok (.iaload, 1) := by decide +kernel
theorem dX9_words_46 : decode cX9_words 46 = .ok (.if_icmp .gt 67, 3) := by decide +kernel
theorem dX9_words_49 : decode cX9_words 49 = .ok (.aload_n 0, 1) := by decide +kernel
theorem dX9_words_50 : decode cX9_words 50 = .ok (.aload_n 0, 1) := by decide +kernel
theorem dX9_words_51 : decode cX9_words 51 = .ok (.getfield 47, 3) := by decide +kernel
theorem dX9_words_54 : decode cX9_words 54 = .ok (.iload_n 3, 1) := by decide +kernel
theorem dX9_words_55 : decode cX9_words 55 = .ok (.iaload, 1) := by decide +kernel
theorem dX9_words_56 : decode cX9_words 56 = .ok (.aload_n 0, 1) := by decide +kernel
theorem dX9_words_57 : decode cX9_words 57 = .ok (.getfield 47, 3) := by decide +kernel
theorem dX9_words_60 : decode cX9_words 60 = .ok (.iload_n 3, 1) := by decide +kernel
theorem dX9_words_61 : decode cX9_words 61 = .ok (.iconst 1, 1) := by decide +kernel
theorem dX9_words_62 : decode cX9_words 62 = .ok (.iadd, 1) := by decide +kernel
theorem dX9_words_63 : decode cX9_words 63 = .ok (.iaload, 1) := by decide +kernel
theorem dX9_words_64 : decode cX9_words 64 = .ok (.aload_n 0, 1) := by decide +kernel
theorem dX9_words_65 : decode cX9_words 65 = .ok (.getfield 47, 3) := by decide +kernel
theorem dX9_words_68 : decode cX9_words 68 = .ok (.iload_n 3, 1) := by decide +kernel
theorem dX9_words_69 : decode cX9_words 69 = .ok (.iconst 2, 1) := by decide +kernel
theorem dX9_words_70 : decode cX9_words 70 = .ok (.iadd, 1) := by decide +kernel
theorem dX9_words_71 : decode cX9_words 71 = .ok (.iaload, 1) := by decide +kernel
theorem dX9_words_72 : decode cX9_words 72 = .ok (.invokevirtual 122, 3) := by decide +kernel
theorem dX9_words_75 : decode cX9_words 75 = .ok (.ifCond .ne 38, 3) := by decide +kernel
theorem dX9_words_78 : decode cX9_words 78 = .ok (.aload_n 0, 1) := by decide +kernel
theorem dX9_words_79 : decode cX9_words 79 = .ok (.aload_n 0, 1) := by decide +kernel
theorem dX9_words_80 : decode cX9_words 80 = .ok (.getfield 47, 3) := by decide +kernel
theorem dX9_words_83 : decode cX9_words 83 = .ok (.iload_n 3, 1) := by decide +kernel
theorem dX9_words_84 : decode cX9_words 84 = .ok (.iaload, 1) := by decide +kernel
theorem dX9_words_85 : decode cX9_words 85 = .ok (.aload_n 0, 1) := by decide +kernel
theorem dX9_words_86 : decode cX9_words 86 = .ok (.getfield 47, 3) := by decide +kernel
theorem dX9_words_89 : decode cX9_words 89 = .ok (.iload_n 3, 1) := by decide +kernel
theorem dX9_words_90 : decode cX9_words 90 = .ok (.iconst 1, 1) := by decide +kernel
theorem dX9_words_91 : decode cX9_words 91 = .ok (.iadd, 1) := by decide +kernel
theorem dX9_words_92 : decode cX9_words 92 = .ok (.iaload, 1) := by decide +kernel
theorem dX9_words_93 : decode cX9_words 93 = .ok (.aload_n 0, 1) := by decide +kernel
theorem dX9_words_94 : decode cX9_words 94 = .ok (.getfield 47, 3) := by decide +kernel
theorem dX9_words_97 : decode cX9_words 97 = .ok (.iload_n 3, 1) := by decide +kernel
theorem dX9_words_98 : decode cX9_words 98 = .ok (.iconst 2, 1) := by decide +kernel
theorem dX9_words_99 : decode cX9_words 99 = .ok (.iadd, 1) := by decide +kernel
theorem dX9_words_100 : decode cX9_words 100 = .ok (.iaload, 1) := by decide +kernel
theorem dX9_words_101 : decode cX9_words 101 = .ok (.invokevirtual 125, 3) := by decide +kernel
theorem dX9_words_104 : decode cX9_words 104 = .ok (.iinc 2 1, 3) := by decide +kernel
theorem dX9_words_107 : decode cX9_words 107 = .ok (.iinc 3 3, 3) := by decide +kernel
theorem dX9_words_110 : decode cX9_words 110 = .ok (.goto (-75), 3) := by decide +kernel
theorem dX9_words_113 : decode cX9_words 113 = .ok (.iload_n 2, 1) := by decide +kernel
theorem dX9_words_114 : decode cX9_words 114 = .ok (.ireturn, 1) := by decide +kernel
set_option maxRecDepth 20000 in
theorem ggX9_manyCame_X9_hasCome : GoodIn wsX9_manyCame wsX9_hasCome := goodIn_r _ [6, 7, 8, 9, 5, 10, 1, 11, 12, 13, 14, 15, 16, 17, 18, 19, 20, 21, 22, 23, 24, 25, 26, 27, 28, 29, 30, 31, 32, 33] (by decide +kernel) (by decide +kernel)
set_option maxRecDepth 20000 in
theorem gX9_manyCame_X9_hasCome : GoodIn wsX9_manyCame (wsV RX9 102 RX9 yX9_hasCome wsX9_hasCome) := goodIn_app (goodIn_of _ (by decide +kernel)) ggX9_manyCame_X9_hasCome
theorem dX9_manyCame_0 : decode cX9_manyCame 0 = .ok (.iconst 0, 1) := by decide +kernel
theorem dX9_manyCame_1 : decode cX9_manyCame 1 = .ok (.istore 4, 2) := by decide +kernel
theorem dX9_manyCame_3 : decode cX9_manyCame 3 = .ok (.iconst 0, 1) := by decide +kernel
theorem dX9_manyCame_4 : decode cX9_manyCame 4 = .ok (.istore 5, 2) := by decide +kernel
theorem dX9_manyCame_6 : decode cX9_manyCame 6 = .ok (.iload 5, 2) := by decide +kernel
theorem dX9_manyCame_8 : decode cX9_manyCame 8 = .ok (.aload_n 0, 1) := by decide +kernel
theorem dX9_manyCame_9 : decode cX9_manyCame 9 = .ok (.getfield 7, 3) := by decide +kernel
theorem dX9_manyCame_12 : decode cX9_manyCame 12 = .ok (.iconst 2, 1) := by decide +kernel
theorem dX9_manyCame_13 : decode cX9_manyCame 13 = .ok (.iaload, 1) := by decide +kernel
theorem dX9_manyCame_14 : decode cX9_manyCame 14 = .ok (.if_icmp .ge 31, 3) := by decide +kernel
theorem dX9_manyCame_17 : decode cX9_manyCame 17 = .ok (.iload 4, 2) := by decide +kernel
theorem dX9_manyCame_19 : decode cX9_manyCame 19 = .ok (.aload_n 0, 1) := by decide +kernel
theorem dX9_manyCame_20 : decode cX9_manyCame 20 = .ok (.iload 5, 2) := by decide +kernel
theorem dX9_manyCame_22 : decode cX9_manyCame 22 = .ok (.iload_n 1, 1) := by decide +kernel
theorem dX9_manyCame_23 : decode cX9_manyCame 23 = .ok (.iload_n 2, 1) := by decide +kernel
theorem dX9_manyCame_24 : decode cX9_manyCame 24 = .ok (.iload_n 3, 1) := by decide +kernel
theorem dX9_manyCame_25 : decode cX9_manyCame 25 = .ok (.invokevirtual 102, 3) := by decide +kernel
theorem dX9_manyCame_28 : decode cX9_manyCame 28 = .ok (.ifCond .eq 7, 3) := by decide +kernel
theorem dX9_manyCame_31 : decode cX9_manyCame 31 = .ok (.iconst 1, 1) := by decide +kernel
theorem dX9_manyCame_32 : decode cX9_manyCame 32 = .ok (.goto 4, 3) := by decide +kernel
theorem dX9_manyCame_35 : decode cX9_manyCame 35 = .ok (.iconst 0, 1) := by decide +kernel
theorem dX9_manyCame_36 : decode cX9_manyCame 36 = .ok (.iadd, 1) := by decide +kernel
theorem dX9_manyCame_37 : decode cX9_manyCame 37 = .ok (.istore 4, 2) := by decide +kernel
theorem dX9_manyCame_39 : decode cX9_manyCame 39 = .ok (.iinc 5 1, 3) := by decide +kernel
theorem dX9_manyCame_42 : decode cX9_manyCame 42 = .ok (.goto (-36), 3) := by decide +kernel
theorem dX9_manyCame_45 : decode cX9_manyCame 45 = .ok (.iload 4, 2) := by decide +kernel
theorem dX9_manyCame_47 : decode cX9_manyCame 47 = .ok (.ireturn, 1) := by decide +kernel
set_option maxRecDepth 20000 in
theorem ggX9_isAsked_X9_isPlace : GoodIn wsX9_isAsked wsX9_isPlace := goodIn_r _ [6, 7, 8, 9, 5, 10, 15, 16, 17, 18, 19, 20, 21, 22, 23, 24, 25, 26, 27, 28, 29, 30, 31, 32, 33, 34, 35, 36, 37] (by decide +kernel) (by decide +kernel)
set_option maxRecDepth 20000 in
theorem gX9_isAsked_X9_isPlace : GoodIn wsX9_isAsked (wsV RX9 58 RX9 yX9_isPlace wsX9_isPlace) := goodIn_app (goodIn_of _ (by decide +kernel)) ggX9_isAsked_X9_isPlace
set_option maxRecDepth 20000 in
theorem ggX9_isAsked_X9_isPact : GoodIn wsX9_isAsked wsX9_isPact := goodIn_r _ [13, 14, 8, 9, 5, 10] (by decide +kernel) (by decide +kernel)
set_option maxRecDepth 20000 in
theorem gX9_isAsked_X9_isPact : GoodIn wsX9_isAsked (va_wsS RX9 111 yX9_isPact wsX9_isPact) := goodIn_app (goodIn_of _ (by decide +kernel)) ggX9_isAsked_X9_isPact
set_option maxRecDepth 20000 in
theorem ggX9_isAsked_X9_in : GoodIn wsX9_isAsked wsX9_in := goodIn_r _ [10] (by decide +kernel) (by decide +kernel)
set_option maxRecDepth 20000 in
theorem gX9_isAsked_X9_in : GoodIn wsX9_isAsked (va_wsS RX9 54 yX9_in wsX9_in) := goodIn_app (goodIn_of _ (by decide +kernel)) ggX9_isAsked_X9_in
theorem dX9_isAsked_0 : decode cX9_isAsked 0 = .ok (.aload_n 0, 1) := by decide +kernel
theorem dX9_isAsked_1 : decode cX9_isAsked 1 = .ok (.iload_n 1, 1) := by decide +kernel
theorem dX9_isAsked_2 : decode cX9_isAsked 2 = .ok (.invokevirtual 58, 3) := by decide +kernel
theorem dX9_isAsked_5 : decode cX9_isAsked 5 = .ok (.ifCond .eq 26, 3) := by decide +kernel
theorem dX9_isAsked_8 : decode cX9_isAsked 8 = .ok (.iload_n 2, 1) := by decide +kernel
theorem dX9_isAsked_9 : decode cX9_isAsked 9 = .ok (.invokestatic 111, 3) := by decide +kernel
theorem dX9_isAsked_12 : decode cX9_isAsked 12 = .ok (.ifCond .eq 19, 3) := by decide +kernel
theorem dX9_isAsked_15 : decode cX9_isAsked 15 = .ok (.iload_n 3, 1) := by decide +kernel
theorem dX9_isAsked_16 : decode cX9_isAsked 16 = .ok (.i2l, 1) := by decide +kernel
theorem dX9_isAsked_17 : decode cX9_isAsked 17 = .ok (.lconst 0, 1) := by decide +kernel
theorem dX9_isAsked_18 : decode cX9_isAsked 18 = .ok (.ldc2_w 140, 3) := by decide +kernel
theorem dX9_isAsked_21 : decode cX9_isAsked 21 = .ok (.invokestatic 54, 3) := by decide +kernel
theorem dX9_isAsked_24 : decode cX9_isAsked 24 = .ok (.ifCond .eq 7, 3) := by decide +kernel
theorem dX9_isAsked_27 : decode cX9_isAsked 27 = .ok (.iconst 1, 1) := by decide +kernel
theorem dX9_isAsked_28 : decode cX9_isAsked 28 = .ok (.goto 4, 3) := by decide +kernel
theorem dX9_isAsked_31 : decode cX9_isAsked 31 = .ok (.iconst 0, 1) := by decide +kernel
theorem dX9_isAsked_32 : decode cX9_isAsked 32 = .ok (.ireturn, 1) := by decide +kernel
set_option maxRecDepth 20000 in
theorem ggX9_came_X9_isAsked : GoodIn wsX9_came wsX9_isAsked := goodIn_r _ [5, 6, 7, 8, 9, 4, 10, 11, 12, 13, 14, 15, 16, 17, 18, 37, 38, 39, 40, 41, 42, 43, 44, 45, 46, 47, 48, 49, 50, 51, 52, 53, 54, 55, 56, 57, 58, 59] (by decide +kernel) (by decide +kernel)
set_option maxRecDepth 20000 in
theorem gX9_came_X9_isAsked : GoodIn wsX9_came (wsV RX9 142 RX9 yX9_isAsked wsX9_isAsked) := goodIn_app (goodIn_of _ (by decide +kernel)) ggX9_came_X9_isAsked
set_option maxRecDepth 20000 in
theorem ggX9_came_X9_manyCame : GoodIn wsX9_came wsX9_manyCame := goodIn_r _ [22, 11, 23, 24, 25, 4, 26, 27, 28, 29, 30, 37, 38, 39, 40, 41, 42, 43, 44, 45, 46, 47, 48, 49, 50, 51, 52, 53, 54, 55, 56, 57, 58, 59] (by decide +kernel) (by decide +kernel)
set_option maxRecDepth 20000 in
theorem gX9_came_X9_manyCame : GoodIn wsX9_came (wsV RX9 145 RX9 yX9_manyCame wsX9_manyCame) := goodIn_app (goodIn_of _ (by decide +kernel)) ggX9_came_X9_manyCame
set_option maxRecDepth 20000 in
theorem ggX9_came_X9_finds : GoodIn wsX9_came wsX9_finds := goodIn_r _ [34, 35, 36, 37, 38, 39, 40, 41, 42, 43, 44, 45, 46, 47, 48, 49, 50, 51, 52, 53, 54, 55, 56, 57, 58, 59] (by decide +kernel) (by decide +kernel)
set_option maxRecDepth 20000 in
theorem gX9_came_X9_finds : GoodIn wsX9_came (wsV RX9 68 RX9 yX9_finds wsX9_finds) := goodIn_app (goodIn_of _ (by decide +kernel)) ggX9_came_X9_finds
theorem dX9_came_0 : decode cX9_came 0 = .ok (.aload_n 0, 1) := by decide +kernel
theorem dX9_came_1 : decode cX9_came 1 = .ok (.iload_n 1, 1) := by decide +kernel
theorem dX9_came_2 : decode cX9_came 2 = .ok (.iload_n 2, 1) := by decide +kernel
theorem dX9_came_3 : decode cX9_came 3 = .ok (.iload_n 3, 1) := by decide +kernel
theorem dX9_came_4 : decode cX9_came 4 = .ok (.invokevirtual 142, 3) := by decide +kernel
theorem dX9_came_7 : decode cX9_came 7 = .ok (.ifCond .eq 13, 3) := by decide +kernel
theorem dX9_came_10 : decode cX9_came 10 = .ok (.aload_n 0, 1) := by decide +kernel
theorem dX9_came_11 : decode cX9_came 11 = .ok (.iload_n 1, 1) := by decide +kernel
theorem dX9_came_12 : decode cX9_came 12 = .ok (.iload_n 2, 1) := by decide +kernel
theorem dX9_came_13 : decode cX9_came 13 = .ok (.iload_n 3, 1) := by decide +kernel
theorem dX9_came_14 : decode cX9_came 14 = .ok (.invokevirtual 145, 3) := by decide +kernel
theorem dX9_came_17 : decode cX9_came 17 = .ok (.goto 8, 3) := by decide +kernel
theorem dX9_came_20 : decode cX9_came 20 = .ok (.aload_n 0, 1) := by decide +kernel
theorem dX9_came_21 : decode cX9_came 21 = .ok (.iconst 1, 1) := by decide +kernel
theorem dX9_came_22 : decode cX9_came 22 = .ok (.invokevirtual 68, 3) := by decide +kernel
theorem dX9_came_25 : decode cX9_came 25 = .ok (.ireturn, 1) := by decide +kernel
set_option maxRecDepth 20000 in
theorem ggX9_knows_X9_isAsked : GoodIn wsX9_knows wsX9_isAsked := goodIn_r _ [5, 6, 7, 8, 9, 4, 10, 11, 12, 13, 14, 15, 16, 17, 18, 37, 38, 39, 40, 41, 42, 43, 44, 45, 46, 47, 48, 49, 50, 51, 52, 53, 54, 55, 56, 57, 58, 59] (by decide +kernel) (by decide +kernel)
set_option maxRecDepth 20000 in
theorem gX9_knows_X9_isAsked : GoodIn wsX9_knows (wsV RX9 142 RX9 yX9_isAsked wsX9_isAsked) := goodIn_app (goodIn_of _ (by decide +kernel)) ggX9_knows_X9_isAsked
set_option maxRecDepth 20000 in
theorem ggX9_knows_X9_knownBy : GoodIn wsX9_knows wsX9_knownBy := goodIn_r _ [22, 11, 23, 24, 25, 4, 26, 27, 28, 29, 30, 37, 38, 39, 40, 41, 42, 43, 44, 45, 46, 47, 48, 49, 50, 51, 52, 53, 54, 55, 56, 57, 58, 59] (by decide +kernel) (by decide +kernel)
set_option maxRecDepth 20000 in
theorem gX9_knows_X9_knownBy : GoodIn wsX9_knows (wsV RX9 114 RX9 yX9_knownBy wsX9_knownBy) := goodIn_app (goodIn_of _ (by decide +kernel)) ggX9_knows_X9_knownBy
set_option maxRecDepth 20000 in
theorem ggX9_knows_X9_finds : GoodIn wsX9_knows wsX9_finds := goodIn_r _ [34, 35, 36, 37, 38, 39, 40, 41, 42, 43, 44, 45, 46, 47, 48, 49, 50, 51, 52, 53, 54, 55, 56, 57, 58, 59] (by decide +kernel) (by decide +kernel)
set_option maxRecDepth 20000 in
theorem gX9_knows_X9_finds : GoodIn wsX9_knows (wsV RX9 68 RX9 yX9_finds wsX9_finds) := goodIn_app (goodIn_of _ (by decide +kernel)) ggX9_knows_X9_finds
theorem dX9_knows_0 : decode cX9_knows 0 = .ok (.aload_n 0, 1) := by decide +kernel
theorem dX9_knows_1 : decode cX9_knows 1 = .ok (.iload_n 1, 1) := by decide +kernel
theorem dX9_knows_2 : decode cX9_knows 2 = .ok (.iload_n 2, 1) := by decide +kernel
theorem dX9_knows_3 : decode cX9_knows 3 = .ok (.iload_n 3, 1) := by decide +kernel
theorem dX9_knows_4 : decode cX9_knows 4 = .ok (.invokevirtual 142, 3) := by decide +kernel
theorem dX9_knows_7 : decode cX9_knows 7 = .ok (.ifCond .eq 13, 3) := by decide +kernel
theorem dX9_knows_10 : decode cX9_knows 10 = .ok (.aload_n 0, 1) := by decide +kernel
theorem dX9_knows_11 : decode cX9_knows 11 = .ok (.iload_n 1, 1) := by decide +kernel
theorem dX9_knows_12 : decode cX9_knows 12 = .ok (.iload_n 2, 1) := by decide +kernel
theorem dX9_knows_13 : decode cX9_knows 13 = .ok (.iload_n 3, 1) := by decide +kernel
theorem dX9_knows_14 : decode cX9_knows 14 = .ok (.invokevirtual 114, 3) := by decide +kernel
theorem dX9_knows_17 : decode cX9_knows 17 = .ok (.goto 8, 3) := by decide +kernel
theorem dX9_knows_20 : decode cX9_knows 20 = .ok (.aload_n 0, 1) := by decide +kernel
theorem dX9_knows_21 : decode cX9_knows 21 = .ok (.iconst 1, 1) := by decide +kernel
theorem dX9_knows_22 : decode cX9_knows 22 = .ok (.invokevirtual 68, 3) := by decide +kernel
theorem dX9_knows_25 : decode cX9_knows 25 = .ok (.ireturn, 1) := by decide +kernel
set_option maxRecDepth 20000 in
theorem ggX9_isOver_X9_wo : GoodIn wsX9_isOver wsX9_wo := goodIn_r _ [5, 6, 7, 8, 9, 10, 11, 12, 13, 14, 15, 16, 17, 18, 19, 20, 21, 22, 23, 24, 25, 26, 27, 28, 29] (by decide +kernel) (by decide +kernel)
set_option maxRecDepth 20000 in
theorem gX9_isOver_X9_wo : GoodIn wsX9_isOver (wsV RX9 99 RX9 yX9_wo wsX9_wo) := goodIn_app (goodIn_of _ (by decide +kernel)) ggX9_isOver_X9_wo
theorem dX9_isOver_0 : decode cX9_isOver 0 = .ok (.iload_n 2, 1) := by decide +kernel
theorem dX9_isOver_1 : decode cX9_isOver 1 = .ok (.aload_n 0, 1) := by decide +kernel
theorem dX9_isOver_2 : decode cX9_isOver 2 = .ok (.iload_n 1, 1) := by decide +kernel
theorem dX9_isOver_3 : decode cX9_isOver 3 = .ok (.iconst 4, 1) := by decide +kernel
theorem dX9_isOver_4 : decode cX9_isOver 4 = .ok (.invokevirtual 99, 3) := by decide +kernel
theorem dX9_isOver_7 : decode cX9_isOver 7 = .ok (.aload_n 0, 1) := by decide +kernel
theorem dX9_isOver_8 : decode cX9_isOver 8 = .ok (.iload_n 1, 1) := by decide +kernel
theorem dX9_isOver_9 : decode cX9_isOver 9 = .ok (.bipush 6, 2) := by decide +kernel
theorem dX9_isOver_11 : decode cX9_isOver 11 = .ok (.invokevirtual 99, 3) := by decide +kernel
theorem dX9_isOver_14 : decode cX9_isOver 14 = .ok (.iadd, 1) := by decide +kernel
theorem dX9_isOver_15 : decode cX9_isOver 15 = .ok (.if_icmp .le 7, 3) := by decide +kernel
theorem dX9_isOver_18 : decode cX9_isOver 18 = .ok (.iconst 1, 1) := by decide +kernel
theorem dX9_isOver_19 : decode cX9_isOver 19 = .ok (.goto 4, 3) := by decide +kernel
theorem dX9_isOver_22 : decode cX9_isOver 22 = .ok (.iconst 0, 1) := by decide +kernel
theorem dX9_isOver_23 : decode cX9_isOver 23 = .ok (.ireturn, 1) := by decide +kernel
theorem dX9_offers_0 : decode cX9_offers 0 = .ok (.aload_n 0, 1) := by decide +kernel
theorem dX9_offers_1 : decode cX9_offers 1 = .ok (.getfield 25, 3) := by decide +kernel
theorem dX9_offers_4 : decode cX9_offers 4 = .ok (.iload_n 1, 1) := by decide +kernel
theorem dX9_offers_5 : decode cX9_offers 5 = .ok (.iaload, 1) := by decide +kernel
theorem dX9_offers_6 : decode cX9_offers 6 = .ok (.ifCond .ne 17, 3) := by decide +kernel
theorem dX9_offers_9 : decode cX9_offers 9 = .ok (.aload_n 0, 1) := by decide +kernel
theorem dX9_offers_10 : decode cX9_offers 10 = .ok (.getfield 25, 3) := by decide +kernel
theorem dX9_offers_13 : decode cX9_offers 13 = .ok (.iload_n 1, 1) := by decide +kernel
theorem dX9_offers_14 : decode cX9_offers 14 = .ok (.iconst 1, 1) := by decide +kernel
theorem dX9_offers_15 : decode cX9_offers 15 = .ok (.iastore, 1) := by decide +kernel
theorem dX9_offers_16 : decode cX9_offers 16 = .ok (.aload_n 0, 1) := by decide +kernel
theorem dX9_offers_17 : decode cX9_offers 17 = .ok (.getfield 28, 3) := by decide +kernel
theorem dX9_offers_20 : decode cX9_offers 20 = .ok (.iload_n 1, 1) := by decide +kernel
theorem dX9_offers_21 : decode cX9_offers 21 = .ok (.iload_n 2, 1) := by decide +kernel
theorem dX9_offers_22 : decode cX9_offers 22 = .ok (.iastore, 1) := by decide +kernel
theorem dX9_offers_23 : decode cX9_offers 23 = .ok (.return_, 1) := by decide +kernel
set_option maxRecDepth 20000 in
theorem ggX9_isAnswer_X9_wo : GoodIn wsX9_isAnswer wsX9_wo := goodIn_r _ [6, 1, 18, 19, 20, 21, 22, 23, 24, 25, 26, 27, 28, 29, 30, 31, 32, 33, 34, 35, 36, 37, 38, 39, 40] (by decide +kernel) (by decide +kernel)
set_option maxRecDepth 20000 in
theorem gX9_isAnswer_X9_wo : GoodIn wsX9_isAnswer (wsV RX9 99 RX9 yX9_wo wsX9_wo) := goodIn_app (goodIn_of _ (by decide +kernel)) ggX9_isAnswer_X9_wo
set_option maxRecDepth 20000 in
theorem ggX9_isAnswer_X9_isOf : GoodIn wsX9_isAnswer wsX9_isOf := goodIn_r _ [9] (by decide +kernel) (by decide +kernel)
set_option maxRecDepth 20000 in
theorem gX9_isAnswer_X9_isOf : GoodIn wsX9_isAnswer (va_wsS RX9 134 yX9_isOf wsX9_isOf) := goodIn_app (goodIn_of _ (by decide +kernel)) ggX9_isAnswer_X9_isOf
set_option maxRecDepth 20000 in
theorem ggX9_isAnswer_X9_hasCome : GoodIn wsX9_isAnswer wsX9_hasCome := goodIn_r _ [13, 2, 3, 4, 5, 6, 1, 18, 19, 20, 21, 22, 23, 24, 25, 26, 27, 28, 29, 30, 31, 32, 33, 34, 35, 36, 37, 38, 39, 40] (by decide +kernel) (by decide +kernel)
set_option maxRecDepth 20000 in
theorem gX9_isAnswer_X9_hasCome : GoodIn wsX9_isAnswer (wsV RX9 102 RX9 yX9_hasCome wsX9_hasCome) := goodIn_app (goodIn_of _ (by decide +kernel)) ggX9_isAnswer_X9_hasCome
set_option maxRecDepth 20000 in
theorem ggX9_isAnswer_X9_isOver : GoodIn wsX9_isAnswer wsX9_isOver := goodIn_r _ [17, 2, 3, 4, 5, 6, 1, 18, 19, 20, 21, 22, 23, 24, 25, 26, 27, 28, 29, 30, 31, 32, 33, 34, 35, 36, 37, 38, 39, 40] (by decide +kernel) (by decide +kernel)
set_option maxRecDepth 20000 in
theorem gX9_isAnswer_X9_isOver : GoodIn wsX9_isAnswer (wsV RX9 148 RX9 yX9_isOver wsX9_isOver) := goodIn_app (goodIn_of _ (by decide +kernel)) ggX9_isAnswer_X9_isOver
theorem dX9_isAnswer_0 : decode cX9_isAnswer 0 = .ok (.iconst 0, 1) := by decide +kernel
theorem dX9_isAnswer_1 : decode cX9_isAnswer 1 = .ok (.istore_n 3, 1) := by decide +kernel
theorem dX9_isAnswer_2 : decode cX9_isAnswer 2 = .ok (.iconst 0, 1) := by decide +kernel
theorem dX9_isAnswer_3 : decode cX9_isAnswer 3 = .ok (.istore 4, 2) := by decide +kernel
theorem dX9_isAnswer_5 : decode cX9_isAnswer 5 = .ok (.iload 4, 2) := by decide +kernel
theorem dX9_isAnswer_7 : decode cX9_isAnswer 7 = .ok (.aload_n 0, 1) := by decide +kernel
theorem dX9_isAnswer_8 : decode cX9_isAnswer 8 = .ok (.getfield 7, 3) := by decide +kernel
theorem dX9_isAnswer_11 : decode cX9_isAnswer 11 = .ok (.iconst 2, 1) := by decide +kernel
theorem dX9_isAnswer_12 : decode cX9_isAnswer 12 = .ok (.iaload, 1) := by decide +kernel
theorem dX9_isAnswer_13 : decode cX9_isAnswer 13 = .ok (.if_icmp .ge 93, 3) := by decide +kernel
theorem dX9_isAnswer_16 : decode cX9_isAnswer 16 = .ok (.aload_n 0, 1) := by decide +kernel
theorem dX9_isAnswer_17 : decode cX9_isAnswer 17 = .ok (.iload 4, 2) := by decide +kernel
theorem dX9_isAnswer_19 : decode cX9_isAnswer 19 = .ok (.iconst 0, 1) := by decide +kernel
theorem dX9_isAnswer_20 : decode cX9_isAnswer 20 = .ok (.invokevirtual 99, 3) := by decide +kernel
theorem dX9_isAnswer_23 : decode cX9_isAnswer 23 = .ok (.iconst 1, 1) := by decide +kernel
theorem dX9_isAnswer_24 : decode cX9_isAnswer 24 = .ok (.invokestatic 134, 3) := by decide +kernel
theorem dX9_isAnswer_27 : decode cX9_isAnswer 27 = .ok (.ifCond .eq 45, 3) := by decide +kernel
theorem dX9_isAnswer_30 : decode cX9_isAnswer 30 = .ok (.aload_n 0, 1) := by decide +kernel
theorem dX9_isAnswer_31 : decode cX9_isAnswer 31 = .ok (.iload 4, 2) := by decide +kernel
theorem dX9_isAnswer_33 : decode cX9_isAnswer 33 = .ok (.iconst 1, 1) := by decide +kernel
theorem dX9_isAnswer_34 : decode cX9_isAnswer 34 = .ok (.invokevirtual 99, 3) := by decide +kernel
theorem dX9_isAnswer_37 : decode cX9_isAnswer 37 = .ok (.aload_n 0, 1) := by decide +kernel
theorem dX9_isAnswer_38 : decode cX9_isAnswer 38 = .ok (.iload_n 1, 1) := by decide +kernel
theorem dX9_isAnswer_39 : decode cX9_isAnswer 39 = .ok (.iconst 2, 1) := by decide +kernel
theorem dX9_isAnswer_40 : decode cX9_isAnswer 40 = .ok (.invokevirtual 99, 3) := by decide +kernel
theorem dX9_isAnswer_43 : decode cX9_isAnswer 43 = .ok (.if_icmp .ne 29, 3) := by decide +kernel
theorem dX9_isAnswer_46 : decode cX9_isAnswer 46 = .ok (.aload_n 0, 1) := by decide +kernel
theorem dX9_isAnswer_47 : decode cX9_isAnswer 47 = .ok (.iload 4, 2) := by decide +kernel
theorem dX9_isAnswer_49 : decode cX9_isAnswer 49 = .ok (.aload_n 0, 1) := by decide +kernel
theorem dX9_isAnswer_50 : decode cX9_isAnswer 50 = .ok (.iload_n 1, 1) := by decide +kernel
theorem dX9_isAnswer_51 : decode cX9_isAnswer 51 = .ok (.iconst 1, 1) := by decide +kernel
theorem dX9_isAnswer_52 : decode cX9_isAnswer 52 = .ok (.invokevirtual 99, 3) := by decide +kernel
theorem dX9_isAnswer_55 : decode cX9_isAnswer 55 = .ok (.aload_n 0, 1) := by decide +kernel
theorem dX9_isAnswer_56 : decode cX9_isAnswer 56 = .ok (.iload_n 1, 1) := by decide +kernel
theorem dX9_isAnswer_57 : decode cX9_isAnswer 57 = .ok (.iconst 3, 1) := by decide +kernel
theorem dX9_isAnswer_58 : decode cX9_isAnswer 58 = .ok (.invokevirtual 99, 3) := by decide +kernel
theorem dX9_isAnswer_61 : decode cX9_isAnswer 61 = .ok (.iload_n 2, 1) := by decide +kernel
theorem dX9_isAnswer_62 : decode cX9_isAnswer 62 = .ok (.invokevirtual 102, 3) := by decide +kernel
theorem dX9_isAnswer_65 : decode cX9_isAnswer 65 = .ok (.ifCond .eq 7, 3) := by decide +kernel
theorem dX9_isAnswer_68 : decode cX9_isAnswer 68 = .ok (.iconst 1, 1) := by decide +kernel
theorem dX9_isAnswer_69 : decode cX9_isAnswer 69 = .ok (.goto 4, 3) := by decide +kernel
theorem dX9_isAnswer_72 : decode cX9_isAnswer 72 = .ok (.iconst 0, 1) := by decide +kernel
theorem dX9_isAnswer_73 : decode cX9_isAnswer 73 = .ok (.istore 5, 2) := by decide +kernel
theorem dX9_isAnswer_75 : decode cX9_isAnswer 75 = .ok (.iload_n 3, 1) := by decide +kernel
theorem dX9_isAnswer_76 : decode cX9_isAnswer 76 = .ok (.ifCond .ne 18, 3) := by decide +kernel
theorem dX9_isAnswer_79 : decode cX9_isAnswer 79 = .ok (.iload 5, 2) := by decide +kernel
theorem dX9_isAnswer_81 : decode cX9_isAnswer 81 = .ok (.ifCond .eq 17, 3) := by decide +kernel
theorem dX9_isAnswer_84 : decode cX9_isAnswer 84 = .ok (.aload_n 0, 1) := by decide +kernel
theorem dX9_isAnswer_85 : decode cX9_isAnswer 85 = .ok (.iload 4, 2) := by decide +kernel
theorem dX9_isAnswer_87 : decode cX9_isAnswer 87 = .ok (.iload_n 2, 1) := by decide +kernel
theorem dX9_isAnswer_88 : decode cX9_isAnswer 88 = .ok (.invokevirtual 148, 3) := by decide +kernel
theorem dX9_isAnswer_91 : decode cX9_isAnswer 91 = .ok (.ifCond .ne 7, 3) := by decide +kernel
theorem dX9_isAnswer_94 : decode cX9_isAnswer 94 = .ok (.iconst 1, 1) := by decide +kernel
theorem dX9_isAnswer_95 : decode cX9_isAnswer 95 = .ok (.goto 4, 3) := by decide +kernel
theorem dX9_isAnswer_98 : decode cX9_isAnswer 98 = .ok (.iconst 0, 1) := by decide +kernel
theorem dX9_isAnswer_99 : decode cX9_isAnswer 99 = .ok (.istore_n 3, 1) := by decide +kernel
theorem dX9_isAnswer_100 : decode cX9_isAnswer 100 = .ok (.iinc 4 1, 3) := by decide +kernel
theorem dX9_isAnswer_103 : decode cX9_isAnswer 103 = .ok (.goto (-98), 3) := by decide +kernel
theorem dX9_isAnswer_106 : decode cX9_isAnswer 106 = .ok (.iload_n 3, 1) := by decide +kernel
theorem dX9_isAnswer_107 : decode cX9_isAnswer 107 = .ok (.ireturn, 1) := by decide +kernel
set_option maxRecDepth 20000 in
theorem ggX9_comes_X9_wo : GoodIn wsX9_comes wsX9_wo := goodIn_r _ [6, 7, 8, 9, 10, 11, 12, 13, 14, 15, 16, 17, 18, 19, 20, 21, 22, 23, 24, 25, 26, 27, 28, 29, 30] (by decide +kernel) (by decide +kernel)
set_option maxRecDepth 20000 in
theorem gX9_comes_X9_wo : GoodIn wsX9_comes (wsV RX9 99 RX9 yX9_wo wsX9_wo) := goodIn_app (goodIn_of _ (by decide +kernel)) ggX9_comes_X9_wo
theorem dX9_comes_0 : decode cX9_comes 0 = .ok (.aload_n 0, 1) := by decide +kernel
theorem dX9_comes_1 : decode cX9_comes 1 = .ok (.getfield 25, 3) := by decide +kernel
theorem dX9_comes_4 : decode cX9_comes 4 = .ok (.iload_n 1, 1) := by decide +kernel
theorem dX9_comes_5 : decode cX9_comes 5 = .ok (.iaload, 1) := by decide +kernel
theorem dX9_comes_6 : decode cX9_comes 6 = .ok (.istore_n 3, 1) := by decide +kernel
theorem dX9_comes_7 : decode cX9_comes 7 = .ok (.aload_n 0, 1) := by decide +kernel
theorem dX9_comes_8 : decode cX9_comes 8 = .ok (.iload_n 2, 1) := by decide +kernel
theorem dX9_comes_9 : decode cX9_comes 9 = .ok (.iconst 0, 1) := by decide +kernel
theorem dX9_comes_10 : decode cX9_comes 10 = .ok (.invokevirtual 99, 3) := by decide +kernel
theorem dX9_comes_13 : decode cX9_comes 13 = .ok (.istore 4, 2) := by decide +kernel
theorem dX9_comes_15 : decode cX9_comes 15 = .ok (.aload_n 0, 1) := by decide +kernel
theorem dX9_comes_16 : decode cX9_comes 16 = .ok (.getfield 25, 3) := by decide +kernel
theorem dX9_comes_19 : decode cX9_comes 19 = .ok (.iload_n 1, 1) := by decide +kernel
theorem dX9_comes_20 : decode cX9_comes 20 = .ok (.iload 4, 2) := by decide +kernel
theorem dX9_comes_22 : decode cX9_comes 22 = .ok (.iconst 2, 1) := by decide +kernel
theorem dX9_comes_23 : decode cX9_comes 23 = .ok (.if_icmp .ne 12, 3) := by decide +kernel
theorem dX9_comes_26 : decode cX9_comes 26 = .ok (.iload_n 3, 1) := by decide +kernel
theorem dX9_comes_27 : decode cX9_comes 27 = .ok (.iconst 1, 1) := by decide +kernel
theorem dX9_comes_28 : decode cX9_comes 28 = .ok (.if_icmp .ne 7, 3) := by decide +kernel
theorem dX9_comes_31 : decode cX9_comes 31 = .ok (.iconst 2, 1) := by decide +kernel
theorem dX9_comes_32 : decode cX9_comes 32 = .ok (.goto 24, 3) := by decide +kernel
theorem dX9_comes_35 : decode cX9_comes 35 = .ok (.iload 4, 2) := by decide +kernel
theorem dX9_comes_37 : decode cX9_comes 37 = .ok (.iconst 4, 1) := by decide +kernel
theorem dX9_comes_38 : decode cX9_comes 38 = .ok (.if_icmp .ne 17, 3) := by decide +kernel
theorem dX9_comes_41 : decode cX9_comes 41 = .ok (.iload_n 3, 1) := by decide +kernel
theorem dX9_comes_42 : decode cX9_comes 42 = .ok (.iconst 1, 1) := by decide +kernel
theorem dX9_comes_43 : decode cX9_comes 43 = .ok (.if_icmp .eq 8, 3) := by decide +kernel
theorem dX9_comes_46 : decode cX9_comes 46 = .ok (.iload_n 3, 1) := by decide +kernel
theorem dX9_comes_47 : decode cX9_comes 47 = .ok (.iconst 2, 1) := by decide +kernel
theorem dX9_comes_48 : decode cX9_comes 48 = .ok (.if_icmp .ne 7, 3) := by decide +kernel
theorem dX9_comes_51 : decode cX9_comes 51 = .ok (.iconst 0, 1) := by decide +kernel
theorem dX9_comes_52 : decode cX9_comes 52 = .ok (.goto 4, 3) := by decide +kernel
theorem dX9_comes_55 : decode cX9_comes 55 = .ok (.iload_n 3, 1) := by decide +kernel
theorem dX9_comes_56 : decode cX9_comes 56 = .ok (.iastore, 1) := by decide +kernel
theorem dX9_comes_57 : decode cX9_comes 57 = .ok (.return_, 1) := by decide +kernel
set_option maxRecDepth 20000 in
theorem ggX9_goes_X9_wo : GoodIn wsX9_goes wsX9_wo := goodIn_r _ [6, 7, 28, 29, 30, 31, 32, 33, 34, 35, 36, 37, 38, 39, 40, 41, 42, 43, 44, 45, 46, 47, 48, 49, 50] (by decide +kernel) (by decide +kernel)
set_option maxRecDepth 20000 in
theorem gX9_goes_X9_wo : GoodIn wsX9_goes (wsV RX9 99 RX9 yX9_wo wsX9_wo) := goodIn_app (goodIn_of _ (by decide +kernel)) ggX9_goes_X9_wo
set_option maxRecDepth 20000 in
theorem ggX9_goes_X9_offers : GoodIn wsX9_goes wsX9_offers := goodIn_r _ [11, 1, 12, 28, 29, 30, 31, 32, 33, 34, 35, 36, 37, 38, 39, 40, 41, 42, 43, 44, 45, 46, 47, 48, 49, 50] (by decide +kernel) (by decide +kernel)
set_option maxRecDepth 20000 in
theorem gX9_goes_X9_offers : GoodIn wsX9_goes (wsV RX9 151 RX9 yX9_offers wsX9_offers) := goodIn_app (goodIn_of _ (by decide +kernel)) ggX9_goes_X9_offers
set_option maxRecDepth 20000 in
theorem ggX9_goes_X9_isAnswer : GoodIn wsX9_goes wsX9_isAnswer := goodIn_r _ [16, 7, 2, 3, 4, 5, 6, 17, 18, 19, 20, 21, 22, 23, 24, 25, 26, 27, 28, 29, 30, 31, 32, 33, 34, 35, 36, 37, 38, 39, 40, 41, 42, 43, 44, 45, 46, 47, 48, 49, 50] (by decide +kernel) (by decide +kernel)
set_option maxRecDepth 20000 in
theorem gX9_goes_X9_isAnswer : GoodIn wsX9_goes (wsV RX9 155 RX9 yX9_isAnswer wsX9_isAnswer) := goodIn_app (goodIn_of _ (by decide +kernel)) ggX9_goes_X9_isAnswer
theorem dX9_goes_0 : decode cX9_goes 0 = .ok (.aload_n 0, 1) := by decide +kernel
theorem dX9_goes_1 : decode cX9_goes 1 = .ok (.getfield 25, 3) := by decide +kernel
theorem dX9_goes_4 : decode cX9_goes 4 = .ok (.iload_n 1, 1) := by decide +kernel
theorem dX9_goes_5 : decode cX9_goes 5 = .ok (.iaload, 1) := by decide +kernel
theorem dX9_goes_6 : decode cX9_goes 6 = .ok (.istore 4, 2) := by decide +kernel
theorem dX9_goes_8 : decode cX9_goes 8 = .ok (.aload_n 0, 1) := by decide +kernel
theorem dX9_goes_9 : decode cX9_goes 9 = .ok (.iload_n 2, 1) := by decide +kernel
theorem dX9_goes_10 : decode cX9_goes 10 = .ok (.iconst 0, 1) := by decide +kernel
theorem dX9_goes_11 : decode cX9_goes 11 = .ok (.invokevirtual 99, 3) := by decide +kernel
theorem dX9_goes_14 : decode cX9_goes 14 = .ok (.tableswitch 135 1 5 #[34, 43, 77, 98, 125], 34) := by decide +kernel
theorem dX9_goes_48 : decode cX9_goes 48 = .ok (.aload_n 0, 1) := by decide +kernel
theorem dX9_goes_49 : decode cX9_goes 49 = .ok (.iload_n 1, 1) := by decide +kernel
theorem dX9_goes_50 : decode cX9_goes 50 = .ok (.iload_n 2, 1) := by decide +kernel
theorem dX9_goes_51 : decode cX9_goes 51 = .ok (.invokevirtual 151, 3) := by decide +kernel
theorem dX9_goes_54 : decode cX9_goes 54 = .ok (.goto 95, 3) := by decide +kernel
theorem dX9_goes_57 : decode cX9_goes 57 = .ok (.iload 4, 2) := by decide +kernel
theorem dX9_goes_59 : decode cX9_goes 59 = .ok (.iconst 2, 1) := by decide +kernel
theorem dX9_goes_60 : decode cX9_goes 60 = .ok (.if_icmp .ge 22, 3) := by decide +kernel
theorem dX9_goes_63 : decode cX9_goes 63 = .ok (.aload_n 0, 1) := by decide +kernel
theorem dX9_goes_64 : decode cX9_goes 64 = .ok (.iload_n 2, 1) := by decide +kernel
theorem dX9_goes_65 : decode cX9_goes 65 = .ok (.iload_n 3, 1) := by decide +kernel
theorem dX9_goes_66 : decode cX9_goes 66 = .ok (.invokevirtual 155, 3) := by decide +kernel
theorem dX9_goes_69 : decode cX9_goes 69 = .ok (.ifCond .eq 13, 3) := by decide +kernel
theorem dX9_goes_72 : decode cX9_goes 72 = .ok (.aload_n 0, 1) := by decide +kernel
theorem dX9_goes_73 : decode cX9_goes 73 = .ok (.getfield 25, 3) := by decide +kernel
theorem dX9_goes_76 : decode cX9_goes 76 = .ok (.iload_n 1, 1) := by decide +kernel
theorem dX9_goes_77 : decode cX9_goes 77 = .ok (.iconst 2, 1) := by decide +kernel
theorem dX9_goes_78 : decode cX9_goes 78 = .ok (.iastore, 1) := by decide +kernel
theorem dX9_goes_79 : decode cX9_goes 79 = .ok (.goto 70, 3) := by decide +kernel
theorem dX9_goes_82 : decode cX9_goes 82 = .ok (.aload_n 0, 1) := by decide +kernel
theorem dX9_goes_83 : decode cX9_goes 83 = .ok (.iload_n 1, 1) := by decide +kernel
theorem dX9_goes_84 : decode cX9_goes 84 = .ok (.iload_n 2, 1) := by decide +kernel
theorem dX9_goes_85 : decode cX9_goes 85 = .ok (.invokevirtual 151, 3) := by decide +kernel
theorem dX9_goes_88 : decode cX9_goes 88 = .ok (.goto 61, 3) := by decide +kernel
theorem dX9_goes_91 : decode cX9_goes 91 = .ok (.aload_n 0, 1) := by decide +kernel
theorem dX9_goes_92 : decode cX9_goes 92 = .ok (.getfield 25, 3) := by decide +kernel
theorem dX9_goes_95 : decode cX9_goes 95 = .ok (.iload_n 1, 1) := by decide +kernel
theorem dX9_goes_96 : decode cX9_goes 96 = .ok (.iload 4, 2) := by decide +kernel
theorem dX9_goes_98 : decode cX9_goes 98 = .ok (.iconst 2, 1) := by decide +kernel
theorem dX9_goes_99 : decode cX9_goes 99 = .ok (.if_icmp .ne 7, 3) := by decide +kernel
theorem dX9_goes_102 : decode cX9_goes 102 = .ok (.iconst 3, 1) := by decide +kernel
theorem dX9_goes_103 : decode cX9_goes 103 = .ok (.goto 5, 3) := by decide +kernel
theorem dX9_goes_106 : decode cX9_goes 106 = .ok (.iload 4, 2) := by decide +kernel
theorem dX9_goes_108 : decode cX9_goes 108 = .ok (.iastore, 1) := by decide +kernel
theorem dX9_goes_109 : decode cX9_goes 109 = .ok (.goto 40, 3) := by decide +kernel
theorem dX9_goes_112 : decode cX9_goes 112 = .ok (.aload_n 0, 1) := by decide +kernel
theorem dX9_goes_113 : decode cX9_goes 113 = .ok (.getfield 25, 3) := by decide +kernel
theorem dX9_goes_116 : decode cX9_goes 116 = .ok (.iload_n 1, 1) := by decide +kernel
theorem dX9_goes_117 : decode cX9_goes 117 = .ok (.iload 4, 2) := by decide +kernel
theorem dX9_goes_119 : decode cX9_goes 119 = .ok (.iconst 1, 1) := by decide +kernel
theorem dX9_goes_120 : decode cX9_goes 120 = .ok (.if_icmp .eq 9, 3) := by decide +kernel
theorem dX9_goes_123 : decode cX9_goes 123 = .ok (.iload 4, 2) := by decide +kernel
theorem dX9_goes_125 : decode cX9_goes 125 = .ok (.iconst 2, 1) := by decide +kernel
theorem dX9_goes_126 : decode cX9_goes 126 = .ok (.if_icmp .ne 7, 3) := by decide +kernel
theorem dX9_goes_129 : decode cX9_goes 129 = .ok (.iconst 0, 1) := by decide +kernel
theorem dX9_goes_130 : decode cX9_goes 130 = .ok (.goto 5, 3) := by decide +kernel
theorem dX9_goes_133 : decode cX9_goes 133 = .ok (.iload 4, 2) := by decide +kernel
theorem dX9_goes_135 : decode cX9_goes 135 = .ok (.iastore, 1) := by decide +kernel
theorem dX9_goes_136 : decode cX9_goes 136 = .ok (.goto 13, 3) := by decide +kernel
theorem dX9_goes_139 : decode cX9_goes 139 = .ok (.aload_n 0, 1) := by decide +kernel
theorem dX9_goes_140 : decode cX9_goes 140 = .ok (.getfield 25, 3) := by decide +kernel
theorem dX9_goes_143 : decode cX9_goes 143 = .ok (.iload_n 1, 1) := by decide +kernel
theorem dX9_goes_144 : decode cX9_goes 144 = .ok (.iconst 3, 1) := by decide +kernel
theorem dX9_goes_145 : decode cX9_goes 145 = .ok (.iastore, 1) := by decide +kernel
theorem dX9_goes_146 : decode cX9_goes 146 = .ok (.goto 3, 3) := by decide +kernel
theorem dX9_goes_149 : decode cX9_goes 149 = .ok (.return_, 1) := by decide +kernel
set_option maxRecDepth 20000 in
theorem ggX9_marksYears_X9_wo : GoodIn wsX9_marksYears wsX9_wo := goodIn_r _ [8, 1, 12, 13, 14, 15, 16, 17, 18, 19, 20, 21, 22, 23, 24, 25, 26, 27, 28, 29, 30, 31, 32, 33, 34] (by decide +kernel) (by decide +kernel)
set_option maxRecDepth 20000 in
theorem gX9_marksYears_X9_wo : GoodIn wsX9_marksYears (wsV RX9 99 RX9 yX9_wo wsX9_wo) := goodIn_app (goodIn_of _ (by decide +kernel)) ggX9_marksYears_X9_wo
set_option maxRecDepth 20000 in
theorem ggX9_marksYears_X9_in : GoodIn wsX9_marksYears wsX9_in := goodIn_r _ [11] (by decide +kernel) (by decide +kernel)
set_option maxRecDepth 20000 in
theorem gX9_marksYears_X9_in : GoodIn wsX9_marksYears (va_wsS RX9 54 yX9_in wsX9_in) := goodIn_app (goodIn_of _ (by decide +kernel)) ggX9_marksYears_X9_in
theorem dX9_marksYears_0 : decode cX9_marksYears 0 = .ok (.iconst 0, 1) := by decide +kernel
theorem dX9_marksYears_1 : decode cX9_marksYears 1 = .ok (.istore_n 3, 1) := by decide +kernel
theorem dX9_marksYears_2 : decode cX9_marksYears 2 = .ok (.iload_n 3, 1) := by decide +kernel
theorem dX9_marksYears_3 : decode cX9_marksYears 3 = .ok (.aload_n 0, 1) := by decide +kernel
theorem dX9_marksYears_4 : decode cX9_marksYears 4 = .ok (.getfield 7, 3) := by decide +kernel
theorem dX9_marksYears_7 : decode cX9_marksYears 7 = .ok (.iconst 2, 1) := by decide +kernel
theorem dX9_marksYears_8 : decode cX9_marksYears 8 = .ok (.iaload, 1) := by decide +kernel
theorem dX9_marksYears_9 : decode cX9_marksYears 9 = .ok (.if_icmp .ge 84, 3) := by decide +kernel
theorem dX9_marksYears_12 : decode cX9_marksYears 12 = .ok (.aload_n 0, 1) := by decide +kernel
theorem dX9_marksYears_13 : decode cX9_marksYears 13 = .ok (.iload_n 3, 1) := by decide +kernel
theorem dX9_marksYears_14 : decode cX9_marksYears 14 = .ok (.iconst 3, 1) := by decide +kernel
theorem dX9_marksYears_15 : decode cX9_marksYears 15 = .ok (.invokevirtual 99, 3) := by decide +kernel
theorem dX9_marksYears_18 : decode cX9_marksYears 18 = .ok (.iload_n 2, 1) := by decide +kernel
theorem dX9_marksYears_19 : decode cX9_marksYears 19 = .ok (.if_icmp .ne 68, 3) := by decide +kernel
theorem dX9_marksYears_22 : decode cX9_marksYears 22 = .ok (.aload_n 0, 1) := by decide +kernel
theorem dX9_marksYears_23 : decode cX9_marksYears 23 = .ok (.iload_n 3, 1) := by decide +kernel
theorem dX9_marksYears_24 : decode cX9_marksYears 24 = .ok (.iconst 2, 1) := by decide +kernel
theorem dX9_marksYears_25 : decode cX9_marksYears 25 = .ok (.invokevirtual 99, 3) := by decide +kernel
theorem dX9_marksYears_28 : decode cX9_marksYears 28 = .ok (.iload_n 1, 1) := by decide +kernel
theorem dX9_marksYears_29 : decode cX9_marksYears 29 = .ok (.if_icmp .ne 12, 3) := by decide +kernel
theorem dX9_marksYears_32 : decode cX9_marksYears 32 = .ok (.aload_n 0, 1) := by decide +kernel
theorem dX9_marksYears_33 : decode cX9_marksYears 33 = .ok (.iload_n 3, 1) := by decide +kernel
theorem dX9_marksYears_34 : decode cX9_marksYears 34 = .ok (.iconst 5, 1) := by decide +kernel
theorem dX9_marksYears_35 : decode cX9_marksYears 35 = .ok (.invokevirtual 99, 3) := by decide +kernel
theorem dX9_marksYears_38 : decode cX9_marksYears 38 = .ok (.goto 4, 3) := by decide +kernel
theorem dX9_marksYears_41 : decode cX9_marksYears 41 = .ok (.iconst (-1), 1) := by decide +kernel
theorem dX9_marksYears_42 : decode cX9_marksYears 42 = .ok (.istore 4, 2) := by decide +kernel
theorem dX9_marksYears_44 : decode cX9_marksYears 44 = .ok (.iload 4, 2) := by decide +kernel
theorem dX9_marksYears_46 : decode cX9_marksYears 46 = .ok (.i2l, 1) := by decide +kernel
theorem dX9_marksYears_47 : decode cX9_marksYears 47 = .ok (.lconst 0, 1) := by decide +kernel
theorem dX9_marksYears_48 : decode cX9_marksYears 48 = .ok (.ldc2_w 140, 3) := by decide +kernel
theorem dX9_marksYears_51 : decode cX9_marksYears 51 = .ok (.invokestatic 54, 3) := by decide +kernel
theorem dX9_marksYears_54 : decode cX9_marksYears 54 = .ok (.ifCond .eq 11, 3) := by decide +kernel
theorem dX9_marksYears_57 : decode cX9_marksYears 57 = .ok (.aload_n 0, 1) := by decide +kernel
theorem dX9_marksYears_58 : decode cX9_marksYears 58 = .ok (.getfield 31, 3) := by decide +kernel
theorem dX9_marksYears_61 : decode cX9_marksYears 61 = .ok (.iload 4, 2) := by decide +kernel
theorem dX9_marksYears_63 : decode cX9_marksYears 63 = .ok (.iconst 1, 1) := by decide +kernel
theorem dX9_marksYears_64 : decode cX9_marksYears 64 = .ok (.bastore, 1) := by decide +kernel
theorem dX9_marksYears_65 : decode cX9_marksYears 65 = .ok (.aload_n 0, 1) := by decide +kernel
theorem dX9_marksYears_66 : decode cX9_marksYears 66 = .ok (.iload_n 3, 1) := by decide +kernel
theorem dX9_marksYears_67 : decode cX9_marksYears 67 = .ok (.iconst 1, 1) := by decide +kernel
theorem dX9_marksYears_68 : decode cX9_marksYears 68 = .ok (.invokevirtual 99, 3) := by decide +kernel
theorem dX9_marksYears_71 : decode cX9_marksYears 71 = .ok (.iload_n 1, 1) := by decide +kernel
theorem dX9_marksYears_72 : decode cX9_marksYears 72 = .ok (.if_icmp .ne 15, 3) := by decide +kernel
theorem dX9_marksYears_75 : decode cX9_marksYears 75 = .ok (.aload_n 0, 1) := by decide +kernel
theorem dX9_marksYears_76 : decode cX9_marksYears 76 = .ok (.getfield 31, 3) := by decide +kernel
theorem dX9_marksYears_79 : decode cX9_marksYears 79 = .ok (.aload_n 0, 1) := by decide +kernel
theorem dX9_marksYears_80 : decode cX9_marksYears 80 = .ok (.iload_n 3, 1) := by decide +kernel
theorem dX9_marksYears_81 : decode cX9_marksYears 81 = .ok (.iconst 4, 1) := by decide +kernel
theorem dX9_marksYears_82 : decode cX9_marksYears 82 = .ok (.invokevirtual 99, 3) := by decide +kernel
theorem dX9_marksYears_85 : decode cX9_marksYears 85 = .ok (.iconst 1, 1) := by decide +kernel
theorem dX9_marksYears_86 : decode cX9_marksYears 86 = .ok (.bastore, 1) := by decide +kernel
theorem dX9_marksYears_87 : decode cX9_marksYears 87 = .ok (.iinc 3 1, 3) := by decide +kernel
theorem dX9_marksYears_90 : decode cX9_marksYears 90 = .ok (.goto (-88), 3) := by decide +kernel
theorem dX9_marksYears_93 : decode cX9_marksYears 93 = .ok (.return_, 1) := by decide +kernel
theorem dX9_begins_0 : decode cX9_begins 0 = .ok (.iconst 0, 1) := by decide +kernel
theorem dX9_begins_1 : decode cX9_begins 1 = .ok (.istore_n 1, 1) := by decide +kernel
theorem dX9_begins_2 : decode cX9_begins 2 = .ok (.iload_n 1, 1) := by decide +kernel
theorem dX9_begins_3 : decode cX9_begins 3 = .ok (.sipush 399, 3) := by decide +kernel
theorem dX9_begins_6 : decode cX9_begins 6 = .ok (.if_icmp .gt 16, 3) := by decide +kernel
theorem dX9_begins_9 : decode cX9_begins 9 = .ok (.aload_n 0, 1) := by decide +kernel
theorem dX9_begins_10 : decode cX9_begins 10 = .ok (.getfield 31, 3) := by decide +kernel
theorem dX9_begins_13 : decode cX9_begins 13 = .ok (.iload_n 1, 1) := by decide +kernel
theorem dX9_begins_14 : decode cX9_begins 14 = .ok (.iconst 0, 1) := by decide +kernel
theorem dX9_begins_15 : decode cX9_begins 15 = .ok (.bastore, 1) := by decide +kernel
theorem dX9_begins_16 : decode cX9_begins 16 = .ok (.iinc 1 1, 3) := by decide +kernel
theorem dX9_begins_19 : decode cX9_begins 19 = .ok (.goto (-17), 3) := by decide +kernel
theorem dX9_begins_22 : decode cX9_begins 22 = .ok (.aload_n 0, 1) := by decide +kernel
theorem dX9_begins_23 : decode cX9_begins 23 = .ok (.getfield 25, 3) := by decide +kernel
theorem dX9_begins_26 : decode cX9_begins 26 = .ok (.iconst 0, 1) := by decide +kernel
theorem dX9_begins_27 : decode cX9_begins 27 = .ok (.iconst 0, 1) := by decide +kernel
theorem dX9_begins_28 : decode cX9_begins 28 = .ok (.iastore, 1) := by decide +kernel
theorem dX9_begins_29 : decode cX9_begins 29 = .ok (.aload_n 0, 1) := by decide +kernel
theorem dX9_begins_30 : decode cX9_begins 30 = .ok (.getfield 25, 3) := by decide +kernel
theorem dX9_begins_33 : decode cX9_begins 33 = .ok (.iconst 1, 1) := by decide +kernel
theorem dX9_begins_34 : decode cX9_begins 34 = .ok (.iconst 0, 1) := by decide +kernel
theorem dX9_begins_35 : decode cX9_begins 35 = .ok (.iastore, 1) := by decide +kernel
theorem dX9_begins_36 : decode cX9_begins 36 = .ok (.return_, 1) := by decide +kernel
set_option maxRecDepth 20000 in
theorem ggX9_ends_X9_isOver : GoodIn wsX9_ends wsX9_isOver := goodIn_r _ [7, 8, 9, 10, 6, 11, 12, 13, 14, 15, 16, 17, 18, 19, 20, 21, 22, 23, 24, 25, 26, 27, 28, 29, 30, 31, 32, 33, 34, 35] (by decide +kernel) (by decide +kernel)
set_option maxRecDepth 20000 in
theorem gX9_ends_X9_isOver : GoodIn wsX9_ends (wsV RX9 148 RX9 yX9_isOver wsX9_isOver) := goodIn_app (goodIn_of _ (by decide +kernel)) ggX9_ends_X9_isOver
theorem dX9_ends_0 : decode cX9_ends 0 = .ok (.aload_n 0, 1) := by decide +kernel
theorem dX9_ends_1 : decode cX9_ends 1 = .ok (.getfield 25, 3) := by decide +kernel
theorem dX9_ends_4 : decode cX9_ends 4 = .ok (.iload_n 1, 1) := by decide +kernel
theorem dX9_ends_5 : decode cX9_ends 5 = .ok (.iaload, 1) := by decide +kernel
theorem dX9_ends_6 : decode cX9_ends 6 = .ok (.iconst 1, 1) := by decide +kernel
theorem dX9_ends_7 : decode cX9_ends 7 = .ok (.if_icmp .ne 24, 3) := by decide +kernel
theorem dX9_ends_10 : decode cX9_ends 10 = .ok (.aload_n 0, 1) := by decide +kernel
theorem dX9_ends_11 : decode cX9_ends 11 = .ok (.aload_n 0, 1) := by decide +kernel
theorem dX9_ends_12 : decode cX9_ends 12 = .ok (.getfield 28, 3) := by decide +kernel
theorem dX9_ends_15 : decode cX9_ends 15 = .ok (.iload_n 1, 1) := by decide +kernel
theorem dX9_ends_16 : decode cX9_ends 16 = .ok (.iaload, 1) := by decide +kernel
theorem dX9_ends_17 : decode cX9_ends 17 = .ok (.iload_n 2, 1) := by decide +kernel
theorem dX9_ends_18 : decode cX9_ends 18 = .ok (.invokevirtual 148, 3) := by decide +kernel
theorem dX9_ends_21 : decode cX9_ends 21 = .ok (.ifCond .eq 10, 3) := by decide +kernel
theorem dX9_ends_24 : decode cX9_ends 24 = .ok (.aload_n 0, 1) := by decide +kernel
theorem dX9_ends_25 : decode cX9_ends 25 = .ok (.getfield 25, 3) := by decide +kernel
theorem dX9_ends_28 : decode cX9_ends 28 = .ok (.iload_n 1, 1) := by decide +kernel
theorem dX9_ends_29 : decode cX9_ends 29 = .ok (.iconst 0, 1) := by decide +kernel
theorem dX9_ends_30 : decode cX9_ends 30 = .ok (.iastore, 1) := by decide +kernel
theorem dX9_ends_31 : decode cX9_ends 31 = .ok (.return_, 1) := by decide +kernel
set_option maxRecDepth 20000 in
theorem ggX9_goesThrough_X9_ends : GoodIn wsX9_goesThrough wsX9_ends := goodIn_r _ [6, 7, 8, 9, 10, 11, 5, 12, 13, 14, 15, 16, 1, 40, 41, 42, 43, 44, 45, 46, 47, 48, 49, 50, 51, 52, 53, 54, 55, 56, 57, 58, 59, 60, 61, 62] (by decide +kernel) (by decide +kernel)
set_option maxRecDepth 20000 in
theorem gX9_goesThrough_X9_ends : GoodIn wsX9_goesThrough (wsV RX9 158 RX9 yX9_ends wsX9_ends) := goodIn_app (goodIn_of _ (by decide +kernel)) ggX9_goesThrough_X9_ends
set_option maxRecDepth 20000 in
theorem ggX9_goesThrough_X9_wo : GoodIn wsX9_goesThrough wsX9_wo := goodIn_r _ [16, 1, 40, 41, 42, 43, 44, 45, 46, 47, 48, 49, 50, 51, 52, 53, 54, 55, 56, 57, 58, 59, 60, 61, 62] (by decide +kernel) (by decide +kernel)
set_option maxRecDepth 20000 in
theorem gX9_goesThrough_X9_wo : GoodIn wsX9_goesThrough (wsV RX9 99 RX9 yX9_wo wsX9_wo) := goodIn_app (goodIn_of _ (by decide +kernel)) ggX9_goesThrough_X9_wo
set_option maxRecDepth 20000 in
theorem ggX9_goesThrough_X9_comes : GoodIn wsX9_goesThrough wsX9_comes := goodIn_r _ [20, 7, 13, 14, 15, 5, 16, 1, 40, 41, 42, 43, 44, 45, 46, 47, 48, 49, 50, 51, 52, 53, 54, 55, 56, 57, 58, 59, 60, 61, 62] (by decide +kernel) (by decide +kernel)
set_option maxRecDepth 20000 in
theorem gX9_goesThrough_X9_comes : GoodIn wsX9_goesThrough (wsV RX9 161 RX9 yX9_comes wsX9_comes) := goodIn_app (goodIn_of _ (by decide +kernel)) ggX9_goesThrough_X9_comes
set_option maxRecDepth 20000 in
theorem ggX9_goesThrough_X9_goes : GoodIn wsX9_goesThrough wsX9_goes := goodIn_r _ [24, 7, 13, 14, 15, 5, 16, 1, 25, 26, 27, 28, 8, 29, 30, 31, 32, 33, 34, 35, 36, 37, 38, 39, 9, 10, 11, 12, 40, 41, 42, 43, 44, 45, 46, 47, 48, 49, 50, 51, 52, 53, 54, 55, 56, 57, 58, 59, 60, 61, 62] (by decide +kernel) (by decide +kernel)
set_option maxRecDepth 20000 in
theorem gX9_goesThrough_X9_goes : GoodIn wsX9_goesThrough (wsV RX9 164 RX9 yX9_goes wsX9_goes) := goodIn_app (goodIn_of _ (by decide +kernel)) ggX9_goesThrough_X9_goes
theorem dX9_goesThrough_0 : decode cX9_goesThrough 0 = .ok (.aload_n 0, 1) := by decide +kernel
theorem dX9_goesThrough_1 : decode cX9_goesThrough 1 = .ok (.iload_n 1, 1) := by decide +kernel
theorem dX9_goesThrough_2 : decode cX9_goesThrough 2 = .ok (.iload 4, 2) := by decide +kernel
theorem dX9_goesThrough_4 : decode cX9_goesThrough 4 = .ok (.invokevirtual 158, 3) := by decide +kernel
theorem dX9_goesThrough_7 : decode cX9_goesThrough 7 = .ok (.iconst 0, 1) := by decide +kernel
theorem dX9_goesThrough_8 : decode cX9_goesThrough 8 = .ok (.istore 5, 2) := by decide +kernel
theorem dX9_goesThrough_10 : decode cX9_goesThrough 10 = .ok (.iload 5, 2) := by decide +kernel
theorem dX9_goesThrough_12 : decode cX9_goesThrough 12 = .ok (.aload_n 0, 1) := by decide +kernel
theorem dX9_goesThrough_13 : decode cX9_goesThrough 13 = .ok (.getfield 7, 3) := by decide +kernel
theorem dX9_goesThrough_16 : decode cX9_goesThrough 16 = .ok (.iconst 2, 1) := by decide +kernel
theorem dX9_goesThrough_17 : decode cX9_goesThrough 17 = .ok (.iaload, 1) := by decide +kernel
theorem dX9_goesThrough_18 : decode cX9_goesThrough 18 = .ok (.if_icmp .ge 50, 3) := by decide +kernel
theorem dX9_goesThrough_21 : decode cX9_goesThrough 21 = .ok (.aload_n 0, 1) := by decide +kernel
theorem dX9_goesThrough_22 : decode cX9_goesThrough 22 = .ok (.iload 5, 2) := by decide +kernel
theorem dX9_goesThrough_24 : decode cX9_goesThrough 24 = .ok (.iconst 2, 1) := by decide +kernel
theorem dX9_goesThrough_25 : decode cX9_goesThrough 25 = .ok (.invokevirtual 99, 3) := by decide +kernel
theorem dX9_goesThrough_28 : decode cX9_goesThrough 28 = .ok (.iload_n 2, 1) := by decide +kernel
theorem dX9_goesThrough_29 : decode cX9_goesThrough 29 = .ok (.if_icmp .ne 33, 3) := by decide +kernel
theorem dX9_goesThrough_32 : decode cX9_goesThrough 32 = .ok (.aload_n 0, 1) := by decide +kernel
theorem dX9_goesThrough_33 : decode cX9_goesThrough 33 = .ok (.iload 5, 2) := by decide +kernel
theorem dX9_goesThrough_35 : decode cX9_goesThrough 35 = .ok (.iconst 3, 1) := by decide +kernel
theorem dX9_goesThrough_36 : decode cX9_goesThrough 36 = .ok (.invokevirtual 99, 3) := by decide +kernel
theorem dX9_goesThrough_39 : decode cX9_goesThrough 39 = .ok (.iload_n 3, 1) := by decide +kernel
theorem dX9_goesThrough_40 : decode cX9_goesThrough 40 = .ok (.if_icmp .ne 22, 3) := by decide +kernel
theorem dX9_goesThrough_43 : decode cX9_goesThrough 43 = .ok (.aload_n 0, 1) := by decide +kernel
theorem dX9_goesThrough_44 : decode cX9_goesThrough 44 = .ok (.iload 5, 2) := by decide +kernel
theorem dX9_goesThrough_46 : decode cX9_goesThrough 46 = .ok (.iconst 5, 1) := by decide +kernel
theorem dX9_goesThrough_47 : decode cX9_goesThrough 47 = .ok (.invokevirtual 99, 3) := by decide +kernel
theorem dX9_goesThrough_50 : decode cX9_goesThrough 50 = .ok (.iload 4, 2) := by decide +kernel
theorem dX9_goesThrough_52 : decode cX9_goesThrough 52 = .ok (.if_icmp .ne 10, 3) := by decide +kernel
theorem dX9_goesThrough_55 : decode cX9_goesThrough 55 = .ok (.aload_n 0, 1) := by decide +kernel
theorem dX9_goesThrough_56 : decode cX9_goesThrough 56 = .ok (.iload_n 1, 1) := by decide +kernel
theorem dX9_goesThrough_57 : decode cX9_goesThrough 57 = .ok (.iload 5, 2) := by decide +kernel
theorem dX9_goesThrough_59 : decode cX9_goesThrough 59 = .ok (.invokevirtual 161, 3) := by decide +kernel
theorem dX9_goesThrough_62 : decode cX9_goesThrough 62 = .ok (.iinc 5 1, 3) := by decide +kernel
theorem dX9_goesThrough_65 : decode cX9_goesThrough 65 = .ok (.goto (-55), 3) := by decide +kernel
theorem dX9_goesThrough_68 : decode cX9_goesThrough 68 = .ok (.iconst 0, 1) := by decide +kernel
theorem dX9_goesThrough_69 : decode cX9_goesThrough 69 = .ok (.istore 5, 2) := by decide +kernel
theorem dX9_goesThrough_71 : decode cX9_goesThrough 71 = .ok (.iload 5, 2) := by decide +kernel
theorem dX9_goesThrough_73 : decode cX9_goesThrough 73 = .ok (.aload_n 0, 1) := by decide +kernel
theorem dX9_goesThrough_74 : decode cX9_goesThrough 74 = .ok (.getfield 7, 3) := by decide +kernel
theorem dX9_goesThrough_77 : decode cX9_goesThrough 77 = .ok (.iconst 2, 1) := by decide +kernel
theorem dX9_goesThrough_78 : decode cX9_goesThrough 78 = .ok (.iaload, 1) := by decide +kernel
theorem dX9_goesThrough_79 : decode cX9_goesThrough 79 = .ok (.if_icmp .ge 52, 3) := by decide +kernel
theorem dX9_goesThrough_82 : decode cX9_goesThrough 82 = .ok (.aload_n 0, 1) := by decide +kernel
theorem dX9_goesThrough_83 : decode cX9_goesThrough 83 = .ok (.iload 5, 2) := by decide +kernel
theorem dX9_goesThrough_85 : decode cX9_goesThrough 85 = .ok (.iconst 1, 1) := by decide +kernel
theorem dX9_goesThrough_86 : decode cX9_goesThrough 86 = .ok (.invokevirtual 99, 3) := by decide +kernel
theorem dX9_goesThrough_89 : decode cX9_goesThrough 89 = .ok (.iload_n 2, 1) := by decide +kernel
theorem dX9_goesThrough_90 : decode cX9_goesThrough 90 = .ok (.if_icmp .ne 35, 3) := by decide +kernel
theorem dX9_goesThrough_93 : decode cX9_goesThrough 93 = .ok (.aload_n 0, 1) := by decide +kernel
theorem dX9_goesThrough_94 : decode cX9_goesThrough 94 = .ok (.iload 5, 2) := by decide +kernel
theorem dX9_goesThrough_96 : decode cX9_goesThrough 96 = .ok (.iconst 3, 1) := by decide +kernel
theorem dX9_goesThrough_97 : decode cX9_goesThrough 97 = .ok (.invokevirtual 99, 3) := by decide +kernel
theorem dX9_goesThrough_100 : decode cX9_goesThrough 100 = .ok (.iload_n 3, 1) := by decide +kernel
theorem dX9_goesThrough_101 : decode cX9_goesThrough 101 = .ok (.if_icmp .ne 24, 3) := by decide +kernel
theorem dX9_goesThrough_104 : decode cX9_goesThrough 104 = .ok (.aload_n 0, 1) := by decide +kernel
theorem dX9_goesThrough_105 : decode cX9_goesThrough 105 = .ok (.iload 5, 2) := by decide +kernel
theorem dX9_goesThrough_107 : decode cX9_goesThrough 107 = .ok (.iconst 4, 1) := by decide +kernel
theorem dX9_goesThrough_108 : decode cX9_goesThrough 108 = .ok (.invokevirtual 99, 3) := by decide +kernel
theorem dX9_goesThrough_111 : decode cX9_goesThrough 111 = .ok (.iload 4, 2) := by decide +kernel
theorem dX9_goesThrough_113 : decode cX9_goesThrough 113 = .ok (.if_icmp .ne 12, 3) := by decide +kernel
theorem dX9_goesThrough_116 : decode cX9_goesThrough 116 = .ok (.aload_n 0, 1) := by decide +kernel
theorem dX9_goesThrough_117 : decode cX9_goesThrough 117 = .ok (.iload_n 1, 1) := by decide +kernel
theorem dX9_goesThrough_118 : decode cX9_goesThrough 118 = .ok (.iload 5, 2) := by decide +kernel
theorem dX9_goesThrough_120 : decode cX9_goesThrough 120 = .ok (.iload 4, 2) := by decide +kernel
theorem dX9_goesThrough_122 : decode cX9_goesThrough 122 = .ok (.invokevirtual 164, 3) := by decide +kernel
theorem dX9_goesThrough_125 : decode cX9_goesThrough 125 = .ok (.iinc 5 1, 3) := by decide +kernel
theorem dX9_goesThrough_128 : decode cX9_goesThrough 128 = .ok (.goto (-57), 3) := by decide +kernel
theorem dX9_goesThrough_131 : decode cX9_goesThrough 131 = .ok (.return_, 1) := by decide +kernel
set_option maxRecDepth 20000 in
theorem ggX9_stanceOf_X9_begins : GoodIn wsX9_stanceOf wsX9_begins := goodIn_r _ [7, 1, 2, 57, 58, 59, 60, 61, 62, 63, 64, 65, 66, 67, 68, 69, 70, 71, 72, 73, 74, 75, 76, 77, 78, 79] (by decide +kernel) (by decide +kernel)
set_option maxRecDepth 20000 in
theorem gX9_stanceOf_X9_begins : GoodIn wsX9_stanceOf (wsV RX9 167 RX9 yX9_begins wsX9_begins) := goodIn_app (goodIn_of _ (by decide +kernel)) ggX9_stanceOf_X9_begins
set_option maxRecDepth 20000 in
theorem ggX9_stanceOf_X9_marksYears : GoodIn wsX9_stanceOf wsX9_marksYears := goodIn_r _ [11, 12, 13, 1, 14, 15, 16, 6, 17, 18, 19, 20, 57, 58, 59, 60, 61, 62, 63, 64, 65, 66, 67, 68, 69, 70, 71, 72, 73, 74, 75, 76, 77, 78, 79] (by decide +kernel) (by decide +kernel)
set_option maxRecDepth 20000 in
theorem gX9_stanceOf_X9_marksYears : GoodIn wsX9_stanceOf (wsV RX9 170 RX9 yX9_marksYears wsX9_marksYears) := goodIn_app (goodIn_of _ (by decide +kernel)) ggX9_stanceOf_X9_marksYears
set_option maxRecDepth 20000 in
theorem ggX9_stanceOf_X9_goesThrough : GoodIn wsX9_stanceOf wsX9_goesThrough := goodIn_r _ [24, 12, 25, 26, 27, 6, 28, 2, 29, 30, 31, 32, 33, 14, 15, 16, 17, 34, 35, 36, 37, 38, 39, 40, 41, 42, 43, 44, 45, 46, 47, 48, 49, 50, 51, 52, 53, 54, 55, 56, 57, 58, 59, 60, 61, 62, 63, 64, 65, 66, 67, 68, 69, 70, 71, 72, 73, 74, 75, 76, 77, 78, 79] (by decide +kernel) (by decide +kernel)
set_option maxRecDepth 20000 in
theorem gX9_stanceOf_X9_goesThrough : GoodIn wsX9_stanceOf (wsV RX9 173 RX9 yX9_goesThrough wsX9_goesThrough) := goodIn_app (goodIn_of _ (by decide +kernel)) ggX9_stanceOf_X9_goesThrough
set_option maxRecDepth 20000 in
theorem ggX9_stanceOf_X9_ends : GoodIn wsX9_stanceOf wsX9_ends := goodIn_r _ [28, 2, 29, 30, 31, 32, 6, 33, 14, 15, 16, 17, 12, 57, 58, 59, 60, 61, 62, 63, 64, 65, 66, 67, 68, 69, 70, 71, 72, 73, 74, 75, 76, 77, 78, 79] (by decide +kernel) (by decide +kernel)
set_option maxRecDepth 20000 in
theorem gX9_stanceOf_X9_ends : GoodIn wsX9_stanceOf (wsV RX9 158 RX9 yX9_ends wsX9_ends) := goodIn_app (goodIn_of _ (by decide +kernel)) ggX9_stanceOf_X9_ends
theorem dX9_stanceOf_0 : decode cX9_stanceOf 0 = .ok (.aload_n 0, 1) := by decide +kernel
theorem dX9_stanceOf_1 : decode cX9_stanceOf 1 = .ok (.invokevirtual 167, 3) := by decide +kernel
theorem dX9_stanceOf_4 : decode cX9_stanceOf 4 = .ok (.aload_n 0, 1) := by decide +kernel
theorem dX9_stanceOf_5 : decode cX9_stanceOf 5 = .ok (.iload_n 1, 1) := by decide +kernel
theorem dX9_stanceOf_6 : decode cX9_stanceOf 6 = .ok (.iload_n 2, 1) := by decide +kernel
theorem dX9_stanceOf_7 : decode cX9_stanceOf 7 = .ok (.invokevirtual 170, 3) := by decide +kernel
theorem dX9_stanceOf_10 : decode cX9_stanceOf 10 = .ok (.iconst 0, 1) := by decide +kernel
theorem dX9_stanceOf_11 : decode cX9_stanceOf 11 = .ok (.istore 4, 2) := by decide +kernel
theorem dX9_stanceOf_13 : decode cX9_stanceOf 13 = .ok (.iload 4, 2) := by decide +kernel
theorem dX9_stanceOf_15 : decode cX9_stanceOf 15 = .ok (.iload_n 3, 1) := by decide +kernel
theorem dX9_stanceOf_16 : decode cX9_stanceOf 16 = .ok (.if_icmp .gt 28, 3) := by decide +kernel
theorem dX9_stanceOf_19 : decode cX9_stanceOf 19 = .ok (.aload_n 0, 1) := by decide +kernel
theorem dX9_stanceOf_20 : decode cX9_stanceOf 20 = .ok (.getfield 31, 3) := by decide +kernel
theorem dX9_stanceOf_23 : decode cX9_stanceOf 23 = .ok (.iload 4, 2) := by decide +kernel
theorem dX9_stanceOf_25 : decode cX9_stanceOf 25 = .ok (.baload, 1) := by decide +kernel
theorem dX9_stanceOf_26 : decode cX9_stanceOf 26 = .ok (.ifCond .eq 12, 3) := by decide +kernel
theorem dX9_stanceOf_29 : decode cX9_stanceOf 29 = .ok (.aload_n 0, 1) := by decide +kernel
theorem dX9_stanceOf_30 : decode cX9_stanceOf 30 = .ok (.iconst 0, 1) := by decide +kernel
theorem dX9_stanceOf_31 : decode cX9_stanceOf 31 = .ok (.iload_n 1, 1) := by decide +kernel
theorem dX9_stanceOf_32 : decode cX9_stanceOf 32 = .ok (.iload_n 2, 1) := by decide +kernel
theorem dX9_stanceOf_33 : decode cX9_stanceOf 33 = .ok (.iload 4, 2) := by decide +kernel
theorem dX9_stanceOf_35 : decode cX9_stanceOf 35 = .ok (.invokevirtual 173, 3) := by decide +kernel
theorem dX9_stanceOf_38 : decode cX9_stanceOf 38 = .ok (.iinc 4 1, 3) := by decide +kernel
theorem dX9_stanceOf_41 : decode cX9_stanceOf 41 = .ok (.goto (-28), 3) := by decide +kernel
theorem dX9_stanceOf_44 : decode cX9_stanceOf 44 = .ok (.aload_n 0, 1) := by decide +kernel
theorem dX9_stanceOf_45 : decode cX9_stanceOf 45 = .ok (.iconst 0, 1) := by decide +kernel
theorem dX9_stanceOf_46 : decode cX9_stanceOf 46 = .ok (.iload_n 3, 1) := by decide +kernel
theorem dX9_stanceOf_47 : decode cX9_stanceOf 47 = .ok (.invokevirtual 158, 3) := by decide +kernel
theorem dX9_stanceOf_50 : decode cX9_stanceOf 50 = .ok (.aload_n 0, 1) := by decide +kernel
theorem dX9_stanceOf_51 : decode cX9_stanceOf 51 = .ok (.getfield 25, 3) := by decide +kernel
theorem dX9_stanceOf_54 : decode cX9_stanceOf 54 = .ok (.iconst 0, 1) := by decide +kernel
theorem dX9_stanceOf_55 : decode cX9_stanceOf 55 = .ok (.iaload, 1) := by decide +kernel
theorem dX9_stanceOf_56 : decode cX9_stanceOf 56 = .ok (.ireturn, 1) := by decide +kernel
set_option maxRecDepth 20000 in
theorem ggX9_stance_X9_isPlace : GoodIn wsX9_stance wsX9_isPlace := goodIn_r _ [6, 1, 7, 8, 5, 9, 75, 76, 77, 78, 79, 80, 81, 82, 83, 84, 85, 86, 87, 88, 89, 90, 91, 92, 93, 94, 95, 96, 97] (by decide +kernel) (by decide +kernel)
set_option maxRecDepth 20000 in
theorem gX9_stance_X9_isPlace : GoodIn wsX9_stance (wsV RX9 58 RX9 yX9_isPlace wsX9_isPlace) := goodIn_app (goodIn_of _ (by decide +kernel)) ggX9_stance_X9_isPlace
set_option maxRecDepth 20000 in
theorem ggX9_stance_X9_isPact : GoodIn wsX9_stance wsX9_isPact := goodIn_r _ [12, 13, 7, 8, 5, 9] (by decide +kernel) (by decide +kernel)
set_option maxRecDepth 20000 in
theorem gX9_stance_X9_isPact : GoodIn wsX9_stance (va_wsS RX9 111 yX9_isPact wsX9_isPact) := goodIn_app (goodIn_of _ (by decide +kernel)) ggX9_stance_X9_isPact
set_option maxRecDepth 20000 in
theorem ggX9_stance_X9_in : GoodIn wsX9_stance wsX9_in := goodIn_r _ [9] (by decide +kernel) (by decide +kernel)
set_option maxRecDepth 20000 in
theorem gX9_stance_X9_in : GoodIn wsX9_stance (va_wsS RX9 54 yX9_in wsX9_in) := goodIn_app (goodIn_of _ (by decide +kernel)) ggX9_stance_X9_in
set_option maxRecDepth 20000 in
theorem ggX9_stance_X9_stanceOf : GoodIn wsX9_stance wsX9_stanceOf := goodIn_r _ [17, 18, 19, 20, 21, 22, 5, 23, 24, 25, 26, 27, 1, 28, 29, 30, 31, 32, 7, 8, 9, 33, 34, 35, 36, 37, 38, 39, 40, 41, 42, 43, 44, 45, 46, 47, 48, 49, 50, 51, 52, 53, 54, 55, 56, 57, 58, 59, 60, 61, 62, 63, 64, 65, 66, 67, 68, 75, 76, 77, 78, 79, 80, 81, 82, 83, 84, 85, 86, 87, 88, 89, 90, 91, 92, 93, 94, 95, 96, 97] (by decide +kernel) (by decide +kernel)
set_option maxRecDepth 20000 in
theorem gX9_stance_X9_stanceOf : GoodIn wsX9_stance (wsV RX9 177 RX9 yX9_stanceOf wsX9_stanceOf) := goodIn_app (goodIn_of _ (by decide +kernel)) ggX9_stance_X9_stanceOf
set_option maxRecDepth 20000 in
theorem ggX9_stance_X9_finds : GoodIn wsX9_stance wsX9_finds := goodIn_r _ [72, 73, 74, 75, 76, 77, 78, 79, 80, 81, 82, 83, 84, 85, 86, 87, 88, 89, 90, 91, 92, 93, 94, 95, 96, 97] (by decide +kernel) (by decide +kernel)
set_option maxRecDepth 20000 in
theorem gX9_stance_X9_finds : GoodIn wsX9_stance (wsV RX9 68 RX9 yX9_finds wsX9_finds) := goodIn_app (goodIn_of _ (by decide +kernel)) ggX9_stance_X9_finds
theorem dX9_stance_0 : decode cX9_stance 0 = .ok (.aload_n 0, 1) := by decide +kernel
theorem dX9_stance_1 : decode cX9_stance 1 = .ok (.iload_n 1, 1) := by decide +kernel
theorem dX9_stance_2 : decode cX9_stance 2 = .ok (.invokevirtual 58, 3) := by decide +kernel
theorem dX9_stance_5 : decode cX9_stance 5 = .ok (.ifCond .eq 36, 3) := by decide +kernel
theorem dX9_stance_8 : decode cX9_stance 8 = .ok (.iload_n 2, 1) := by decide +kernel
theorem dX9_stance_9 : decode cX9_stance 9 = .ok (.invokestatic 111, 3) := by decide +kernel
theorem dX9_stance_12 : decode cX9_stance 12 = .ok (.ifCond .eq 29, 3) := by decide +kernel
theorem dX9_stance_15 : decode cX9_stance 15 = .ok (.iload_n 3, 1) := by decide +kernel
theorem dX9_stance_16 : decode cX9_stance 16 = .ok (.i2l, 1) := by decide +kernel
theorem dX9_stance_17 : decode cX9_stance 17 = .ok (.lconst 0, 1) := by decide +kernel
theorem dX9_stance_18 : decode cX9_stance 18 = .ok (.aload_n 0, 1) := by decide +kernel
theorem dX9_stance_19 : decode cX9_stance 19 = .ok (.getfield 7, 3) := by decide +kernel
theorem dX9_stance_22 : decode cX9_stance 22 = .ok (.iconst 0, 1) := by decide +kernel
theorem dX9_stance_23 : decode cX9_stance 23 = .ok (.iaload, 1) := by decide +kernel
theorem dX9_stance_24 : decode cX9_stance 24 = .ok (.i2l, 1) := by decide +kernel
theorem dX9_stance_25 : decode cX9_stance 25 = .ok (.invokestatic 54, 3) := by decide +kernel
theorem dX9_stance_28 : decode cX9_stance 28 = .ok (.ifCond .eq 13, 3) := by decide +kernel
theorem dX9_stance_31 : decode cX9_stance 31 = .ok (.aload_n 0, 1) := by decide +kernel
theorem dX9_stance_32 : decode cX9_stance 32 = .ok (.iload_n 1, 1) := by decide +kernel
theorem dX9_stance_33 : decode cX9_stance 33 = .ok (.iload_n 2, 1) := by decide +kernel
theorem dX9_stance_34 : decode cX9_stance 34 = .ok (.iload_n 3, 1) := by decide +kernel
theorem dX9_stance_35 : decode cX9_stance 35 = .ok (.invokevirtual 177, 3) := by decide +kernel
theorem dX9_stance_38 : decode cX9_stance 38 = .ok (.goto 8, 3) := by decide +kernel
theorem dX9_stance_41 : decode cX9_stance 41 = .ok (.aload_n 0, 1) := by decide +kernel
theorem dX9_stance_42 : decode cX9_stance 42 = .ok (.iconst 1, 1) := by decide +kernel
theorem dX9_stance_43 : decode cX9_stance 43 = .ok (.invokevirtual 68, 3) := by decide +kernel
theorem dX9_stance_46 : decode cX9_stance 46 = .ok (.ireturn, 1) := by decide +kernel
set_option maxRecDepth 20000 in
theorem ggX9_made_X9_areTwo : GoodIn wsX9_made wsX9_areTwo := goodIn_r _ [8, 9, 10, 11, 7, 12, 1, 13, 14, 15, 75, 76, 77, 78, 79, 80, 81, 82, 83, 84, 85, 86, 87, 88, 89, 90, 91, 92, 93, 94, 95, 96, 97] (by decide +kernel) (by decide +kernel)
set_option maxRecDepth 20000 in
theorem gX9_made_X9_areTwo : GoodIn wsX9_made (wsV RX9 62 RX9 yX9_areTwo wsX9_areTwo) := goodIn_app (goodIn_of _ (by decide +kernel)) ggX9_made_X9_areTwo
set_option maxRecDepth 20000 in
theorem ggX9_made_X9_isPact : GoodIn wsX9_made wsX9_isPact := goodIn_r _ [18, 19, 13, 14, 7, 15] (by decide +kernel) (by decide +kernel)
set_option maxRecDepth 20000 in
theorem gX9_made_X9_isPact : GoodIn wsX9_made (va_wsS RX9 111 yX9_isPact wsX9_isPact) := goodIn_app (goodIn_of _ (by decide +kernel)) ggX9_made_X9_isPact
set_option maxRecDepth 20000 in
theorem ggX9_made_X9_finds : GoodIn wsX9_made wsX9_finds := goodIn_r _ [23, 24, 25, 75, 76, 77, 78, 79, 80, 81, 82, 83, 84, 85, 86, 87, 88, 89, 90, 91, 92, 93, 94, 95, 96, 97] (by decide +kernel) (by decide +kernel)
set_option maxRecDepth 20000 in
theorem gX9_made_X9_finds : GoodIn wsX9_made (wsV RX9 68 RX9 yX9_finds wsX9_finds) := goodIn_app (goodIn_of _ (by decide +kernel)) ggX9_made_X9_finds
set_option maxRecDepth 20000 in
theorem ggX9_made_X9_begins : GoodIn wsX9_made wsX9_begins := goodIn_r _ [29, 2, 3, 75, 76, 77, 78, 79, 80, 81, 82, 83, 84, 85, 86, 87, 88, 89, 90, 91, 92, 93, 94, 95, 96, 97] (by decide +kernel) (by decide +kernel)
set_option maxRecDepth 20000 in
theorem gX9_made_X9_begins : GoodIn wsX9_made (wsV RX9 167 RX9 yX9_begins wsX9_begins) := goodIn_app (goodIn_of _ (by decide +kernel)) ggX9_made_X9_begins
set_option maxRecDepth 20000 in
theorem ggX9_made_X9_marksYears : GoodIn wsX9_made wsX9_marksYears := goodIn_r _ [33, 1, 34, 2, 35, 36, 37, 7, 38, 13, 14, 15, 75, 76, 77, 78, 79, 80, 81, 82, 83, 84, 85, 86, 87, 88, 89, 90, 91, 92, 93, 94, 95, 96, 97] (by decide +kernel) (by decide +kernel)
set_option maxRecDepth 20000 in
theorem gX9_made_X9_marksYears : GoodIn wsX9_made (wsV RX9 170 RX9 yX9_marksYears wsX9_marksYears) := goodIn_app (goodIn_of _ (by decide +kernel)) ggX9_made_X9_marksYears
set_option maxRecDepth 20000 in
theorem ggX9_made_X9_goesThrough : GoodIn wsX9_made wsX9_goesThrough := goodIn_r _ [42, 1, 43, 44, 45, 7, 46, 3, 47, 48, 49, 50, 51, 35, 36, 37, 38, 52, 53, 54, 55, 56, 57, 58, 59, 60, 61, 62, 63, 64, 65, 66, 67, 68, 69, 70, 71, 72, 73, 74, 75, 76, 77, 78, 79, 80, 81, 82, 83, 84, 85, 86, 87, 88, 89, 90, 91, 92, 93, 94, 95, 96, 97] (by decide +kernel) (by decide +kernel)
set_option maxRecDepth 20000 in
theorem gX9_made_X9_goesThrough : GoodIn wsX9_made (wsV RX9 173 RX9 yX9_goesThrough wsX9_goesThrough) := goodIn_app (goodIn_of _ (by decide +kernel)) ggX9_made_X9_goesThrough
theorem dX9_made_0 : decode cX9_made 0 = .ok (.aload_n 0, 1) := by decide +kernel
theorem dX9_made_1 : decode cX9_made 1 = .ok (.iload_n 1, 1) := by decide +kernel
theorem dX9_made_2 : decode cX9_made 2 = .ok (.iload_n 2, 1) := by decide +kernel
theorem dX9_made_3 : decode cX9_made 3 = .ok (.invokevirtual 62, 3) := by decide +kernel
theorem dX9_made_6 : decode cX9_made 6 = .ok (.ifCond .eq 10, 3) := by decide +kernel
theorem dX9_made_9 : decode cX9_made 9 = .ok (.iload_n 3, 1) := by decide +kernel
theorem dX9_made_10 : decode cX9_made 10 = .ok (.invokestatic 111, 3) := by decide +kernel
theorem dX9_made_13 : decode cX9_made 13 = .ok (.ifCond .ne 9, 3) := by decide +kernel
theorem dX9_made_16 : decode cX9_made 16 = .ok (.aload_n 0, 1) := by decide +kernel
theorem dX9_made_17 : decode cX9_made 17 = .ok (.iconst 1, 1) := by decide +kernel
theorem dX9_made_18 : decode cX9_made 18 = .ok (.invokevirtual 68, 3) := by decide +kernel
theorem dX9_made_21 : decode cX9_made 21 = .ok (.ireturn, 1) := by decide +kernel
theorem dX9_made_22 : decode cX9_made 22 = .ok (.aload_n 0, 1) := by decide +kernel
theorem dX9_made_23 : decode cX9_made 23 = .ok (.invokevirtual 167, 3) := by decide +kernel
theorem dX9_made_26 : decode cX9_made 26 = .ok (.aload_n 0, 1) := by decide +kernel
theorem dX9_made_27 : decode cX9_made 27 = .ok (.iload_n 1, 1) := by decide +kernel
theorem dX9_made_28 : decode cX9_made 28 = .ok (.iload_n 3, 1) := by decide +kernel
theorem dX9_made_29 : decode cX9_made 29 = .ok (.invokevirtual 170, 3) := by decide +kernel
theorem dX9_made_32 : decode cX9_made 32 = .ok (.aload_n 0, 1) := by decide +kernel
theorem dX9_made_33 : decode cX9_made 33 = .ok (.iload_n 2, 1) := by decide +kernel
theorem dX9_made_34 : decode cX9_made 34 = .ok (.iload_n 3, 1) := by decide +kernel
theorem dX9_made_35 : decode cX9_made 35 = .ok (.invokevirtual 170, 3) := by decide +kernel
theorem dX9_made_38 : decode cX9_made 38 = .ok (.iconst 0, 1) := by decide +kernel
theorem dX9_made_39 : decode cX9_made 39 = .ok (.istore 4, 2) := by decide +kernel
theorem dX9_made_41 : decode cX9_made 41 = .ok (.iload 4, 2) := by decide +kernel
theorem dX9_made_43 : decode cX9_made 43 = .ok (.aload_n 0, 1) := by decide +kernel
theorem dX9_made_44 : decode cX9_made 44 = .ok (.getfield 7, 3) := by decide +kernel
theorem dX9_made_47 : decode cX9_made 47 = .ok (.iconst 0, 1) := by decide +kernel
theorem dX9_made_48 : decode cX9_made 48 = .ok (.iaload, 1) := by decide +kernel
theorem dX9_made_49 : decode cX9_made 49 = .ok (.if_icmp .gt 60, 3) := by decide +kernel
theorem dX9_made_52 : decode cX9_made 52 = .ok (.aload_n 0, 1) := by decide +kernel
theorem dX9_made_53 : decode cX9_made 53 = .ok (.getfield 31, 3) := by decide +kernel
theorem dX9_made_56 : decode cX9_made 56 = .ok (.iload 4, 2) := by decide +kernel
theorem dX9_made_58 : decode cX9_made 58 = .ok (.baload, 1) := by decide +kernel
theorem dX9_made_59 : decode cX9_made 59 = .ok (.ifCond .eq 44, 3) := by decide +kernel
theorem dX9_made_62 : decode cX9_made 62 = .ok (.aload_n 0, 1) := by decide +kernel
theorem dX9_made_63 : decode cX9_made 63 = .ok (.iconst 0, 1) := by decide +kernel
theorem dX9_made_64 : decode cX9_made 64 = .ok (.iload_n 1, 1) := by decide +kernel
theorem dX9_made_65 : decode cX9_made 65 = .ok (.iload_n 3, 1) := by decide +kernel
theorem dX9_made_66 : decode cX9_made 66 = .ok (.iload 4, 2) := by decide +kernel
theorem dX9_made_68 : decode cX9_made 68 = .ok (.invokevirtual 173, 3) := by decide +kernel
theorem dX9_made_71 : decode cX9_made 71 = .ok (.aload_n 0, 1) := by decide +kernel
theorem dX9_made_72 : decode cX9_made 72 = .ok (.iconst 1, 1) := by decide +kernel
theorem dX9_made_73 : decode cX9_made 73 = .ok (.iload_n 2, 1) := by decide +kernel
theorem dX9_made_74 : decode cX9_made 74 = .ok (.iload_n 3, 1) := by decide +kernel
theorem dX9_made_75 : decode cX9_made 75 = .ok (.iload 4, 2) := by decide +kernel
theorem dX9_made_77 : decode cX9_made 77 = .ok (.invokevirtual 173, 3) := by decide +kernel
theorem dX9_made_80 : decode cX9_made 80 = .ok (.aload_n 0, 1) := by decide +kernel
theorem dX9_made_81 : decode cX9_made 81 = .ok (.getfield 25, 3) := by decide +kernel
theorem dX9_made_84 : decode cX9_made 84 = .ok (.iconst 0, 1) := by decide +kernel
theorem dX9_made_85 : decode cX9_made 85 = .ok (.iaload, 1) := by decide +kernel
theorem dX9_made_86 : decode cX9_made 86 = .ok (.iconst 2, 1) := by decide +kernel
theorem dX9_made_87 : decode cX9_made 87 = .ok (.if_icmp .lt 16, 3) := by decide +kernel
theorem dX9_made_90 : decode cX9_made 90 = .ok (.aload_n 0, 1) := by decide +kernel
theorem dX9_made_91 : decode cX9_made 91 = .ok (.getfield 25, 3) := by decide +kernel
theorem dX9_made_94 : decode cX9_made 94 = .ok (.iconst 1, 1) := by decide +kernel
theorem dX9_made_95 : decode cX9_made 95 = .ok (.iaload, 1) := by decide +kernel
theorem dX9_made_96 : decode cX9_made 96 = .ok (.iconst 2, 1) := by decide +kernel
theorem dX9_made_97 : decode cX9_made 97 = .ok (.if_icmp .lt 6, 3) := by decide +kernel
theorem dX9_made_100 : decode cX9_made 100 = .ok (.iload 4, 2) := by decide +kernel
theorem dX9_made_102 : decode cX9_made 102 = .ok (.ireturn, 1) := by decide +kernel
theorem dX9_made_103 : decode cX9_made 103 = .ok (.iinc 4 1, 3) := by decide +kernel
theorem dX9_made_106 : decode cX9_made 106 = .ok (.goto (-65), 3) := by decide +kernel
theorem dX9_made_109 : decode cX9_made 109 = .ok (.aload_n 0, 1) := by decide +kernel
theorem dX9_made_110 : decode cX9_made 110 = .ok (.iconst 2, 1) := by decide +kernel
theorem dX9_made_111 : decode cX9_made 111 = .ok (.invokevirtual 68, 3) := by decide +kernel
theorem dX9_made_114 : decode cX9_made 114 = .ok (.ireturn, 1) := by decide +kernel
theorem dX9_here_0 : decode cX9_here 0 = .ok (.aload_n 0, 1) := by decide +kernel
theorem dX9_here_1 : decode cX9_here 1 = .ok (.getfield 180, 3) := by decide +kernel
theorem dX9_here_4 : decode cX9_here 4 = .ok (.aload_n 0, 1) := by decide +kernel
theorem dX9_here_5 : decode cX9_here 5 = .ok (.getfield 184, 3) := by decide +kernel
theorem dX9_here_8 : decode cX9_here 8 = .ok (.if_icmp .ge 27, 3) := by decide +kernel
theorem dX9_here_11 : decode cX9_here 11 = .ok (.aload_n 0, 1) := by decide +kernel
theorem dX9_here_12 : decode cX9_here 12 = .ok (.getfield 187, 3) := by decide +kernel
theorem dX9_here_15 : decode cX9_here 15 = .ok (.ifCond .ge 20, 3) := by decide +kernel
theorem dX9_here_18 : decode cX9_here 18 = .ok (.aload_n 0, 1) := by decide +kernel
theorem dX9_here_19 : decode cX9_here 19 = .ok (.getfield 7, 3) := by decide +kernel
theorem dX9_here_22 : decode cX9_here 22 = .ok (.aload_n 0, 1) := by decide +kernel
theorem dX9_here_23 : decode cX9_here 23 = .ok (.getfield 190, 3) := by decide +kernel
theorem dX9_here_26 : decode cX9_here 26 = .ok (.aload_n 0, 1) := by decide +kernel
theorem dX9_here_27 : decode cX9_here 27 = .ok (.getfield 180, 3) := by decide +kernel
theorem dX9_here_30 : decode cX9_here 30 = .ok (.iadd, 1) := by decide +kernel
theorem dX9_here_31 : decode cX9_here 31 = .ok (.iaload, 1) := by decide +kernel
theorem dX9_here_32 : decode cX9_here 32 = .ok (.goto 4, 3) := by decide +kernel
theorem dX9_here_35 : decode cX9_here 35 = .ok (.iconst (-1), 1) := by decide +kernel
theorem dX9_here_36 : decode cX9_here 36 = .ok (.ireturn, 1) := by decide +kernel
theorem dX9_wrong_0 : decode cX9_wrong 0 = .ok (.aload_n 0, 1) := by decide +kernel
theorem dX9_wrong_1 : decode cX9_wrong 1 = .ok (.aload_n 0, 1) := by decide +kernel
theorem dX9_wrong_2 : decode cX9_wrong 2 = .ok (.getfield 187, 3) := by decide +kernel
theorem dX9_wrong_5 : decode cX9_wrong 5 = .ok (.ifCond .ge 10, 3) := by decide +kernel
theorem dX9_wrong_8 : decode cX9_wrong 8 = .ok (.aload_n 0, 1) := by decide +kernel
theorem dX9_wrong_9 : decode cX9_wrong 9 = .ok (.getfield 180, 3) := by decide +kernel
theorem dX9_wrong_12 : decode cX9_wrong 12 = .ok (.goto 7, 3) := by decide +kernel
theorem dX9_wrong_15 : decode cX9_wrong 15 = .ok (.aload_n 0, 1) := by decide +kernel
theorem dX9_wrong_16 : decode cX9_wrong 16 = .ok (.getfield 187, 3) := by decide +kernel
theorem dX9_wrong_19 : decode cX9_wrong 19 = .ok (.putfield 187, 3) := by decide +kernel
theorem dX9_wrong_22 : decode cX9_wrong 22 = .ok (.iconst 0, 1) := by decide +kernel
theorem dX9_wrong_23 : decode cX9_wrong 23 = .ok (.ireturn, 1) := by decide +kernel
set_option maxRecDepth 20000 in
theorem ggX9_takes_X9_here : GoodIn wsX9_takes wsX9_here := goodIn_r _ [6, 1, 7, 8, 9, 10, 11, 12, 13, 14, 15, 16, 17, 18, 19, 20, 21, 22, 23, 24, 25, 26, 27, 28, 29, 30, 31, 32, 33] (by decide +kernel) (by decide +kernel)
set_option maxRecDepth 20000 in
theorem gX9_takes_X9_here : GoodIn wsX9_takes (wsV RX9 193 RX9 yX9_here wsX9_here) := goodIn_app (goodIn_of _ (by decide +kernel)) ggX9_takes_X9_here
theorem dX9_takes_0 : decode cX9_takes 0 = .ok (.aload_n 0, 1) := by decide +kernel
theorem dX9_takes_1 : decode cX9_takes 1 = .ok (.invokevirtual 193, 3) := by decide +kernel
theorem dX9_takes_4 : decode cX9_takes 4 = .ok (.iload_n 1, 1) := by decide +kernel
theorem dX9_takes_5 : decode cX9_takes 5 = .ok (.if_icmp .eq 5, 3) := by decide +kernel
theorem dX9_takes_8 : decode cX9_takes 8 = .ok (.iconst 0, 1) := by decide +kernel
theorem dX9_takes_9 : decode cX9_takes 9 = .ok (.ireturn, 1) := by decide +kernel
theorem dX9_takes_10 : decode cX9_takes 10 = .ok (.aload_n 0, 1) := by decide +kernel
theorem dX9_takes_11 : decode cX9_takes 11 = .ok (.dup, 1) := by decide +kernel
theorem dX9_takes_12 : decode cX9_takes 12 = .ok (.getfield 180, 3) := by decide +kernel
theorem dX9_takes_15 : decode cX9_takes 15 = .ok (.iconst 1, 1) := by decide +kernel
theorem dX9_takes_16 : decode cX9_takes 16 = .ok (.iadd, 1) := by decide +kernel
theorem dX9_takes_17 : decode cX9_takes 17 = .ok (.putfield 180, 3) := by decide +kernel
theorem dX9_takes_20 : decode cX9_takes 20 = .ok (.iconst 1, 1) := by decide +kernel
theorem dX9_takes_21 : decode cX9_takes 21 = .ok (.ireturn, 1) := by decide +kernel
theorem dX9_nameOf_0 : decode cX9_nameOf 0 = .ok (.aload_n 0, 1) := by decide +kernel
theorem dX9_nameOf_1 : decode cX9_nameOf 1 = .ok (.getfield 196, 3) := by decide +kernel
theorem dX9_nameOf_4 : decode cX9_nameOf 4 = .ok (.ifCond .eq 45, 3) := by decide +kernel
theorem dX9_nameOf_7 : decode cX9_nameOf 7 = .ok (.iload_n 1, 1) := by decide +kernel
theorem dX9_nameOf_8 : decode cX9_nameOf 8 = .ok (.bipush 115, 2) := by decide +kernel
theorem dX9_nameOf_10 : decode cX9_nameOf 10 = .ok (.if_icmp .ne 7, 3) := by decide +kernel
theorem dX9_nameOf_13 : decode cX9_nameOf 13 = .ok (.iconst 0, 1) := by decide +kernel
theorem dX9_nameOf_14 : decode cX9_nameOf 14 = .ok (.goto 34, 3) := by decide +kernel
theorem dX9_nameOf_17 : decode cX9_nameOf 17 = .ok (.iload_n 1, 1) := by decide +kernel
theorem dX9_nameOf_18 : decode cX9_nameOf 18 = .ok (.bipush 99, 2) := by decide +kernel
theorem dX9_nameOf_20 : decode cX9_nameOf 20 = .ok (.if_icmp .ne 7, 3) := by decide +kernel
theorem dX9_nameOf_23 : decode cX9_nameOf 23 = .ok (.iconst 1, 1) := by decide +kernel
theorem dX9_nameOf_24 : decode cX9_nameOf 24 = .ok (.goto 24, 3) := by decide +kernel
theorem dX9_nameOf_27 : decode cX9_nameOf 27 = .ok (.iload_n 1, 1) := by decide +kernel
theorem dX9_nameOf_28 : decode cX9_nameOf 28 = .ok (.bipush 107, 2) := by decide +kernel
theorem dX9_nameOf_30 : decode cX9_nameOf 30 = .ok (.if_icmp .ne 7, 3) := by decide +kernel
theorem dX9_nameOf_33 : decode cX9_nameOf 33 = .ok (.iconst 2, 1) := by decide +kernel
theorem dX9_nameOf_34 : decode cX9_nameOf 34 = .ok (.goto 14, 3) := by decide +kernel
theorem dX9_nameOf_37 : decode cX9_nameOf 37 = .ok (.iload_n 1, 1) := by decide +kernel
theorem dX9_nameOf_38 : decode cX9_nameOf 38 = .ok (.bipush 121, 2) := by decide +kernel
theorem dX9_nameOf_40 : decode cX9_nameOf 40 = .ok (.if_icmp .ne 7, 3) := by decide +kernel
theorem dX9_nameOf_43 : decode cX9_nameOf 43 = .ok (.iconst 3, 1) := by decide +kernel
theorem dX9_nameOf_44 : decode cX9_nameOf 44 = .ok (.goto 4, 3) := by decide +kernel
theorem dX9_nameOf_47 : decode cX9_nameOf 47 = .ok (.iconst (-1), 1) := by decide +kernel
theorem dX9_nameOf_48 : decode cX9_nameOf 48 = .ok (.ireturn, 1) := by decide +kernel
theorem dX9_nameOf_49 : decode cX9_nameOf 49 = .ok (.iload_n 1, 1) := by decide +kernel
theorem dX9_nameOf_50 : decode cX9_nameOf 50 = .ok (.bipush 111, 2) := by decide +kernel
theorem dX9_nameOf_52 : decode cX9_nameOf 52 = .ok (.if_icmp .ne 7, 3) := by decide +kernel
theorem dX9_nameOf_55 : decode cX9_nameOf 55 = .ok (.iconst 0, 1) := by decide +kernel
theorem dX9_nameOf_56 : decode cX9_nameOf 56 = .ok (.goto 44, 3) := by decide +kernel
theorem dX9_nameOf_59 : decode cX9_nameOf 59 = .ok (.iload_n 1, 1) := by decide +kernel
theorem dX9_nameOf_60 : decode cX9_nameOf 60 = .ok (.bipush 116, 2) := by decide +kernel
theorem dX9_nameOf_62 : decode cX9_nameOf 62 = .ok (.if_icmp .ne 7, 3) := by decide +kernel
theorem dX9_nameOf_65 : decode cX9_nameOf 65 = .ok (.iconst 1, 1) := by decide +kernel
theorem dX9_nameOf_66 : decode cX9_nameOf 66 = .ok (.goto 34, 3) := by decide +kernel
theorem dX9_nameOf_69 : decode cX9_nameOf 69 = .ok (.iload_n 1, 1) := by decide +kernel
theorem dX9_nameOf_70 : decode cX9_nameOf 70 = .ok (.bipush 114, 2) := by decide +kernel
theorem dX9_nameOf_72 : decode cX9_nameOf 72 = .ok (.if_icmp .ne 7, 3) := by decide +kernel
theorem dX9_nameOf_75 : decode cX9_nameOf 75 = .ok (.iconst 2, 1) := by decide +kernel
theorem dX9_nameOf_76 : decode cX9_nameOf 76 = .ok (.goto 24, 3) := by decide +kernel
theorem dX9_nameOf_79 : decode cX9_nameOf 79 = .ok (.iload_n 1, 1) := by decide +kernel
theorem dX9_nameOf_80 : decode cX9_nameOf 80 = .ok (.bipush 97, 2) := by decide +kernel
theorem dX9_nameOf_82 : decode cX9_nameOf 82 = .ok (.if_icmp .ne 7, 3) := by decide +kernel
theorem dX9_nameOf_85 : decode cX9_nameOf 85 = .ok (.iconst 3, 1) := by decide +kernel
theorem dX9_nameOf_86 : decode cX9_nameOf 86 = .ok (.goto 14, 3) := by decide +kernel
theorem dX9_nameOf_89 : decode cX9_nameOf 89 = .ok (.iload_n 1, 1) := by decide +kernel
theorem dX9_nameOf_90 : decode cX9_nameOf 90 = .ok (.bipush 98, 2) := by decide +kernel
theorem dX9_nameOf_92 : decode cX9_nameOf 92 = .ok (.if_icmp .ne 7, 3) := by decide +kernel
theorem dX9_nameOf_95 : decode cX9_nameOf 95 = .ok (.iconst 4, 1) := by decide +kernel
theorem dX9_nameOf_96 : decode cX9_nameOf 96 = .ok (.goto 4, 3) := by decide +kernel
theorem dX9_nameOf_99 : decode cX9_nameOf 99 = .ok (.iconst (-1), 1) := by decide +kernel
theorem dX9_nameOf_100 : decode cX9_nameOf 100 = .ok (.ireturn, 1) := by decide +kernel
set_option maxRecDepth 20000 in
theorem ggX9_either_X9_both : GoodIn wsX9_either wsX9_both := goodIn_r _ [18, 19, 20, 21, 4, 5, 6, 7, 8, 9, 10, 11, 12, 13, 14, 15, 16, 17, 22, 23, 24, 25, 0, 1, 2, 3, 26, 27, 28, 29, 30, 31, 32, 33, 34, 35, 36, 37, 38, 39, 40, 41, 42, 43, 44, 45, 46, 47, 48, 49, 50, 51, 52, 53, 54, 55, 56, 57, 58, 59, 60, 61, 62, 63, 64, 65, 66, 67, 68, 69, 70, 71, 72, 73, 74, 75, 76] (by decide +kernel) (by decide +kernel)
set_option maxRecDepth 20000 in
theorem gX9_either_X9_both : GoodIn wsX9_either (wsV RX9 200 RX9 yX9_both wsX9_both) := goodIn_app (goodIn_of _ (by decide +kernel)) ggX9_either_X9_both
set_option maxRecDepth 20000 in
theorem ggX9_either_X9_takes : GoodIn wsX9_either wsX9_takes := goodIn_r _ [8, 9, 10, 11, 12, 4, 13, 14, 15, 16, 17, 54, 55, 56, 57, 58, 59, 60, 61, 62, 63, 64, 65, 66, 67, 68, 69, 70, 71, 72, 73, 74, 75, 76] (by decide +kernel) (by decide +kernel)
set_option maxRecDepth 20000 in
theorem gX9_either_X9_takes : GoodIn wsX9_either (wsV RX9 203 RX9 yX9_takes wsX9_takes) := goodIn_app (goodIn_of _ (by decide +kernel)) ggX9_either_X9_takes
theorem dX9_either_0 : decode cX9_either 0 = .ok (.aload_n 0, 1) := by decide +kernel
theorem dX9_either_1 : decode cX9_either 1 = .ok (.invokevirtual 200, 3) := by decide +kernel
theorem dX9_either_4 : decode cX9_either 4 = .ok (.istore_n 1, 1) := by decide +kernel
theorem dX9_either_5 : decode cX9_either 5 = .ok (.aload_n 0, 1) := by decide +kernel
theorem dX9_either_6 : decode cX9_either 6 = .ok (.bipush 124, 2) := by decide +kernel
theorem dX9_either_8 : decode cX9_either 8 = .ok (.invokevirtual 203, 3) := by decide +kernel
theorem dX9_either_11 : decode cX9_either 11 = .ok (.ifCond .eq 25, 3) := by decide +kernel
theorem dX9_either_14 : decode cX9_either 14 = .ok (.aload_n 0, 1) := by decide +kernel
theorem dX9_either_15 : decode cX9_either 15 = .ok (.invokevirtual 200, 3) := by decide +kernel
theorem dX9_either_18 : decode cX9_either 18 = .ok (.istore_n 2, 1) := by decide +kernel
theorem dX9_either_19 : decode cX9_either 19 = .ok (.iload_n 1, 1) := by decide +kernel
theorem dX9_either_20 : decode cX9_either 20 = .ok (.ifCond .ne 7, 3) := by decide +kernel
theorem dX9_either_23 : decode cX9_either 23 = .ok (.iload_n 2, 1) := by decide +kernel
theorem dX9_either_24 : decode cX9_either 24 = .ok (.ifCond .eq 7, 3) := by decide +kernel
theorem dX9_either_27 : decode cX9_either 27 = .ok (.iconst 1, 1) := by decide +kernel
theorem dX9_either_28 : decode cX9_either 28 = .ok (.goto 4, 3) := by decide +kernel
theorem dX9_either_31 : decode cX9_either 31 = .ok (.iconst 0, 1) := by decide +kernel
theorem dX9_either_32 : decode cX9_either 32 = .ok (.istore_n 1, 1) := by decide +kernel
theorem dX9_either_33 : decode cX9_either 33 = .ok (.goto (-28), 3) := by decide +kernel
theorem dX9_either_36 : decode cX9_either 36 = .ok (.iload_n 1, 1) := by decide +kernel
theorem dX9_either_37 : decode cX9_either 37 = .ok (.ireturn, 1) := by decide +kernel
set_option maxRecDepth 20000 in
theorem ggX9_both_X9_compared : GoodIn wsX9_both wsX9_compared := goodIn_r _ [18, 9, 19, 20, 21, 4, 10, 11, 12, 13, 14, 15, 16, 17, 0, 1, 2, 3, 5, 6, 7, 8, 22, 23, 24, 25, 26, 27, 28, 29, 30, 31, 32, 33, 34, 35, 36, 37, 38, 39, 40, 41, 42, 43, 44, 45, 46, 47, 48, 49, 50, 51, 52, 53, 54, 55, 56, 57, 58, 59, 60, 61, 62, 63, 64, 65, 66, 67, 68, 69, 70, 71, 72, 73, 74, 75, 76] (by decide +kernel) (by decide +kernel)
set_option maxRecDepth 20000 in
theorem gX9_both_X9_compared : GoodIn wsX9_both (wsV RX9 206 RX9 yX9_compared wsX9_compared) := goodIn_app (goodIn_of _ (by decide +kernel)) ggX9_both_X9_compared
set_option maxRecDepth 20000 in
theorem ggX9_both_X9_takes : GoodIn wsX9_both wsX9_takes := goodIn_r _ [8, 9, 10, 11, 12, 4, 13, 14, 15, 16, 17, 54, 55, 56, 57, 58, 59, 60, 61, 62, 63, 64, 65, 66, 67, 68, 69, 70, 71, 72, 73, 74, 75, 76] (by decide +kernel) (by decide +kernel)
set_option maxRecDepth 20000 in
theorem gX9_both_X9_takes : GoodIn wsX9_both (wsV RX9 203 RX9 yX9_takes wsX9_takes) := goodIn_app (goodIn_of _ (by decide +kernel)) ggX9_both_X9_takes
theorem dX9_both_0 : decode cX9_both 0 = .ok (.aload_n 0, 1) := by decide +kernel
theorem dX9_both_1 : decode cX9_both 1 = .ok (.invokevirtual 206, 3) := by decide +kernel
theorem dX9_both_4 : decode cX9_both 4 = .ok (.istore_n 1, 1) := by decide +kernel
theorem dX9_both_5 : decode cX9_both 5 = .ok (.aload_n 0, 1) := by decide +kernel
theorem dX9_both_6 : decode cX9_both 6 = .ok (.bipush 38, 2) := by decide +kernel
theorem dX9_both_8 : decode cX9_both 8 = .ok (.invokevirtual 203, 3) := by decide +kernel
theorem dX9_both_11 : decode cX9_both 11 = .ok (.ifCond .eq 25, 3) := by decide +kernel
theorem dX9_both_14 : decode cX9_both 14 = .ok (.aload_n 0, 1) := by decide +kernel
theorem dX9_both_15 : decode cX9_both 15 = .ok (.invokevirtual 206, 3) := by decide +kernel
theorem dX9_both_18 : decode cX9_both 18 = .ok (.istore_n 2, 1) := by decide +kernel
theorem dX9_both_19 : decode cX9_both 19 = .ok (.iload_n 1, 1) := by decide +kernel
theorem dX9_both_20 : decode cX9_both 20 = .ok (.ifCond .eq 11, 3) := by decide +kernel
theorem dX9_both_23 : decode cX9_both 23 = .ok (.iload_n 2, 1) := by decide +kernel
theorem dX9_both_24 : decode cX9_both 24 = .ok (.ifCond .eq 7, 3) := by decide +kernel
theorem dX9_both_27 : decode cX9_both 27 = .ok (.iconst 1, 1) := by decide +kernel
theorem dX9_both_28 : decode cX9_both 28 = .ok (.goto 4, 3) := by decide +kernel
theorem dX9_both_31 : decode cX9_both 31 = .ok (.iconst 0, 1) := by decide +kernel
theorem dX9_both_32 : decode cX9_both 32 = .ok (.istore_n 1, 1) := by decide +kernel
theorem dX9_both_33 : decode cX9_both 33 = .ok (.goto (-28), 3) := by decide +kernel
theorem dX9_both_36 : decode cX9_both 36 = .ok (.iload_n 1, 1) := by decide +kernel
theorem dX9_both_37 : decode cX9_both 37 = .ok (.ireturn, 1) := by decide +kernel
set_option maxRecDepth 20000 in
theorem ggX9_compared_X9_sum : GoodIn wsX9_compared wsX9_sum := goodIn_r _ [30, 1, 31, 32, 33, 5, 6, 7, 8, 9, 10, 11, 12, 13, 14, 15, 16, 17, 18, 19, 20, 21, 0, 2, 3, 4, 22, 23, 24, 25, 26, 27, 28, 29, 34, 35, 36, 37, 38, 39, 40, 41, 42, 43, 44, 45, 46, 47, 48, 49, 50, 51, 52, 53, 54, 55, 56, 57, 58, 59, 60, 61, 62, 63, 64, 65, 66, 67, 68, 69, 70, 71, 72, 73, 74, 75, 76] (by decide +kernel) (by decide +kernel)
set_option maxRecDepth 20000 in
theorem gX9_compared_X9_sum : GoodIn wsX9_compared (wsV RX9 209 RX9 yX9_sum wsX9_sum) := goodIn_app (goodIn_of _ (by decide +kernel)) ggX9_compared_X9_sum
set_option maxRecDepth 20000 in
theorem ggX9_compared_X9_here : GoodIn wsX9_compared wsX9_here := goodIn_r _ [9, 1, 10, 11, 12, 13, 54, 55, 56, 57, 58, 59, 60, 61, 62, 63, 64, 65, 66, 67, 68, 69, 70, 71, 72, 73, 74, 75, 76] (by decide +kernel) (by decide +kernel)
set_option maxRecDepth 20000 in
theorem gX9_compared_X9_here : GoodIn wsX9_compared (wsV RX9 193 RX9 yX9_here wsX9_here) := goodIn_app (goodIn_of _ (by decide +kernel)) ggX9_compared_X9_here
theorem dX9_compared_0 : decode cX9_compared 0 = .ok (.aload_n 0, 1) := by decide +kernel
theorem dX9_compared_1 : decode cX9_compared 1 = .ok (.invokevirtual 209, 3) := by decide +kernel
theorem dX9_compared_4 : decode cX9_compared 4 = .ok (.istore_n 1, 1) := by decide +kernel
theorem dX9_compared_5 : decode cX9_compared 5 = .ok (.aload_n 0, 1) := by decide +kernel
theorem dX9_compared_6 : decode cX9_compared 6 = .ok (.invokevirtual 193, 3) := by decide +kernel
theorem dX9_compared_9 : decode cX9_compared 9 = .ok (.istore_n 2, 1) := by decide +kernel
theorem dX9_compared_10 : decode cX9_compared 10 = .ok (.iload_n 2, 1) := by decide +kernel
theorem dX9_compared_11 : decode cX9_compared 11 = .ok (.bipush 60, 2) := by decide +kernel
theorem dX9_compared_13 : decode cX9_compared 13 = .ok (.if_icmp .eq 17, 3) := by decide +kernel
theorem dX9_compared_16 : decode cX9_compared 16 = .ok (.iload_n 2, 1) := by decide +kernel
theorem dX9_compared_17 : decode cX9_compared 17 = .ok (.bipush 61, 2) := by decide +kernel
theorem dX9_compared_19 : decode cX9_compared 19 = .ok (.if_icmp .eq 11, 3) := by decide +kernel
theorem dX9_compared_22 : decode cX9_compared 22 = .ok (.iload_n 2, 1) := by decide +kernel
theorem dX9_compared_23 : decode cX9_compared 23 = .ok (.bipush 62, 2) := by decide +kernel
theorem dX9_compared_25 : decode cX9_compared 25 = .ok (.if_icmp .eq 5, 3) := by decide +kernel
theorem dX9_compared_28 : decode cX9_compared 28 = .ok (.iload_n 1, 1) := by decide +kernel
theorem dX9_compared_29 : decode cX9_compared 29 = .ok (.ireturn, 1) := by decide +kernel
theorem dX9_compared_30 : decode cX9_compared 30 = .ok (.aload_n 0, 1) := by decide +kernel
theorem dX9_compared_31 : decode cX9_compared 31 = .ok (.dup, 1) := by decide +kernel
theorem dX9_compared_32 : decode cX9_compared 32 = .ok (.getfield 180, 3) := by decide +kernel
theorem dX9_compared_35 : decode cX9_compared 35 = .ok (.iconst 1, 1) := by decide +kernel
theorem dX9_compared_36 : decode cX9_compared 36 = .ok (.iadd, 1) := by decide +kernel
theorem dX9_compared_37 : decode cX9_compared 37 = .ok (.putfield 180, 3) := by decide +kernel
theorem dX9_compared_40 : decode cX9_compared 40 = .ok (.aload_n 0, 1) := by decide +kernel
theorem dX9_compared_41 : decode cX9_compared 41 = .ok (.invokevirtual 209, 3) := by decide +kernel
theorem dX9_compared_44 : decode cX9_compared 44 = .ok (.istore_n 3, 1) := by decide +kernel
theorem dX9_compared_45 : decode cX9_compared 45 = .ok (.iload_n 2, 1) := by decide +kernel
theorem dX9_compared_46 : decode cX9_compared 46 = .ok (.bipush 60, 2) := by decide +kernel
theorem dX9_compared_48 : decode cX9_compared 48 = .ok (.if_icmp .ne 11, 3) := by decide +kernel
theorem dX9_compared_51 : decode cX9_compared 51 = .ok (.iload_n 1, 1) := by decide +kernel
theorem dX9_compared_52 : decode cX9_compared 52 = .ok (.iload_n 3, 1) := by decide +kernel
theorem dX9_compared_53 : decode cX9_compared 53 = .ok (.if_icmp .ge 29, 3) := by decide +kernel
theorem dX9_compared_56 : decode cX9_compared 56 = .ok (.goto 22, 3) := by decide +kernel
theorem dX9_compared_59 : decode cX9_compared 59 = .ok (.iload_n 2, 1) := by decide +kernel
theorem dX9_compared_60 : decode cX9_compared 60 = .ok (.bipush 61, 2) := by decide +kernel
theorem dX9_compared_62 : decode cX9_compared 62 = .ok (.if_icmp .ne 11, 3) := by decide +kernel
theorem dX9_compared_65 : decode cX9_compared 65 = .ok (.iload_n 1, 1) := by decide +kernel
theorem dX9_compared_66 : decode cX9_compared 66 = .ok (.iload_n 3, 1) := by decide +kernel
theorem dX9_compared_67 : decode cX9_compared 67 = .ok (.if_icmp .ne 15, 3) := by decide +kernel
theorem dX9_compared_70 : decode cX9_compared 70 = .ok (.goto 8, 3) := by decide +kernel
theorem dX9_compared_73 : decode cX9_compared 73 = .ok (.iload_n 1, 1) := by decide +kernel
theorem dX9_compared_74 : decode cX9_compared 74 = .ok (.iload_n 3, 1) := by decide +kernel
theorem dX9_compared_75 : decode cX9_compared 75 = .ok (.if_icmp .le 7, 3) := by decide +kernel
theorem dX9_compared_78 : decode cX9_compared 78 = .ok (.iconst 1, 1) := by decide +kernel
theorem dX9_compared_79 : decode cX9_compared 79 = .ok (.goto 4, 3) := by decide +kernel
theorem dX9_compared_82 : decode cX9_compared 82 = .ok (.iconst 0, 1) := by decide +kernel
theorem dX9_compared_83 : decode cX9_compared 83 = .ok (.ireturn, 1) := by decide +kernel
set_option maxRecDepth 20000 in
theorem ggX9_sum_X9_product : GoodIn wsX9_sum wsX9_product := goodIn_r _ [30, 1, 31, 32, 33, 5, 6, 7, 8, 9, 10, 11, 12, 13, 14, 15, 16, 17, 18, 19, 20, 21, 22, 23, 24, 25, 26, 27, 28, 29, 0, 2, 3, 4, 34, 35, 36, 37, 38, 39, 40, 41, 42, 43, 44, 45, 46, 47, 48, 49, 50, 51, 52, 53, 54, 55, 56, 57, 58, 59, 60, 61, 62, 63, 64, 65, 66, 67, 68, 69, 70, 71, 72, 73, 74, 75, 76] (by decide +kernel) (by decide +kernel)
set_option maxRecDepth 20000 in
theorem gX9_sum_X9_product : GoodIn wsX9_sum (wsV RX9 212 RX9 yX9_product wsX9_product) := goodIn_app (goodIn_of _ (by decide +kernel)) ggX9_sum_X9_product
set_option maxRecDepth 20000 in
theorem ggX9_sum_X9_here : GoodIn wsX9_sum wsX9_here := goodIn_r _ [9, 1, 10, 11, 12, 13, 54, 55, 56, 57, 58, 59, 60, 61, 62, 63, 64, 65, 66, 67, 68, 69, 70, 71, 72, 73, 74, 75, 76] (by decide +kernel) (by decide +kernel)
set_option maxRecDepth 20000 in
theorem gX9_sum_X9_here : GoodIn wsX9_sum (wsV RX9 193 RX9 yX9_here wsX9_here) := goodIn_app (goodIn_of _ (by decide +kernel)) ggX9_sum_X9_here
theorem dX9_sum_0 : decode cX9_sum 0 = .ok (.aload_n 0, 1) := by decide +kernel
theorem dX9_sum_1 : decode cX9_sum 1 = .ok (.invokevirtual 212, 3) := by decide +kernel
theorem dX9_sum_4 : decode cX9_sum 4 = .ok (.istore_n 1, 1) := by decide +kernel
theorem dX9_sum_5 : decode cX9_sum 5 = .ok (.aload_n 0, 1) := by decide +kernel
theorem dX9_sum_6 : decode cX9_sum 6 = .ok (.invokevirtual 193, 3) := by decide +kernel
theorem dX9_sum_9 : decode cX9_sum 9 = .ok (.bipush 43, 2) := by decide +kernel
theorem dX9_sum_11 : decode cX9_sum 11 = .ok (.if_icmp .eq 12, 3) := by decide +kernel
theorem dX9_sum_14 : decode cX9_sum 14 = .ok (.aload_n 0, 1) := by decide +kernel
theorem dX9_sum_15 : decode cX9_sum 15 = .ok (.invokevirtual 193, 3) := by decide +kernel
theorem dX9_sum_18 : decode cX9_sum 18 = .ok (.bipush 45, 2) := by decide +kernel
theorem dX9_sum_20 : decode cX9_sum 20 = .ok (.if_icmp .ne 42, 3) := by decide +kernel
theorem dX9_sum_23 : decode cX9_sum 23 = .ok (.aload_n 0, 1) := by decide +kernel
theorem dX9_sum_24 : decode cX9_sum 24 = .ok (.invokevirtual 193, 3) := by decide +kernel
theorem dX9_sum_27 : decode cX9_sum 27 = .ok (.istore_n 2, 1) := by decide +kernel
theorem dX9_sum_28 : decode cX9_sum 28 = .ok (.aload_n 0, 1) := by decide +kernel
theorem dX9_sum_29 : decode cX9_sum 29 = .ok (.dup, 1) := by decide +kernel
theorem dX9_sum_30 : decode cX9_sum 30 = .ok (.getfield 180, 3) := by decide +kernel
theorem dX9_sum_33 : decode cX9_sum 33 = .ok (.iconst 1, 1) := by decide +kernel
theorem dX9_sum_34 : decode cX9_sum 34 = .ok (.iadd, 1) := by decide +kernel
theorem dX9_sum_35 : decode cX9_sum 35 = .ok (.putfield 180, 3) := by decide +kernel
theorem dX9_sum_38 : decode cX9_sum 38 = .ok (.aload_n 0, 1) := by decide +kernel
theorem dX9_sum_39 : decode cX9_sum 39 = .ok (.invokevirtual 212, 3) := by decide +kernel
theorem dX9_sum_42 : decode cX9_sum 42 = .ok (.istore_n 3, 1) := by decide +kernel
theorem dX9_sum_43 : decode cX9_sum 43 = .ok (.iload_n 2, 1) := by decide +kernel
theorem dX9_sum_44 : decode cX9_sum 44 = .ok (.bipush 43, 2) := by decide +kernel
theorem dX9_sum_46 : decode cX9_sum 46 = .ok (.if_icmp .ne 9, 3) := by decide +kernel
theorem dX9_sum_49 : decode cX9_sum 49 = .ok (.iload_n 1, 1) := by decide +kernel
theorem dX9_sum_50 : decode cX9_sum 50 = .ok (.iload_n 3, 1) := by decide +kernel
theorem dX9_sum_51 : decode cX9_sum 51 = .ok (.iadd, 1) := by decide +kernel
theorem dX9_sum_52 : decode cX9_sum 52 = .ok (.goto 6, 3) := by decide +kernel
theorem dX9_sum_55 : decode cX9_sum 55 = .ok (.iload_n 1, 1) := by decide +kernel
theorem dX9_sum_56 : decode cX9_sum 56 = .ok (.iload_n 3, 1) := by decide +kernel
theorem dX9_sum_57 : decode cX9_sum 57 = .ok (.isub, 1) := by decide +kernel
theorem dX9_sum_58 : decode cX9_sum 58 = .ok (.istore_n 1, 1) := by decide +kernel
theorem dX9_sum_59 : decode cX9_sum 59 = .ok (.goto (-54), 3) := by decide +kernel
theorem dX9_sum_62 : decode cX9_sum 62 = .ok (.iload_n 1, 1) := by decide +kernel
theorem dX9_sum_63 : decode cX9_sum 63 = .ok (.ireturn, 1) := by decide +kernel
set_option maxRecDepth 20000 in
theorem ggX9_product_X9_unit : GoodIn wsX9_product wsX9_unit := goodIn_r _ [34, 35, 1, 36, 37, 38, 6, 7, 8, 5, 9, 10, 11, 12, 13, 39, 40, 41, 42, 43, 44, 45, 2, 3, 4, 18, 19, 20, 21, 46, 47, 48, 49, 50, 51, 52, 53, 14, 15, 16, 17, 22, 23, 24, 25, 26, 27, 28, 29, 0, 30, 31, 32, 33, 54, 55, 56, 57, 58, 59, 60, 61, 62, 63, 64, 65, 66, 67, 68, 69, 70, 71, 72, 73, 74, 75, 76] (by decide +kernel) (by decide +kernel)
set_option maxRecDepth 20000 in
theorem gX9_product_X9_unit : GoodIn wsX9_product (wsV RX9 215 RX9 yX9_unit wsX9_unit) := goodIn_app (goodIn_of _ (by decide +kernel)) ggX9_product_X9_unit
set_option maxRecDepth 20000 in
theorem ggX9_product_X9_here : GoodIn wsX9_product wsX9_here := goodIn_r _ [9, 1, 10, 11, 12, 13, 54, 55, 56, 57, 58, 59, 60, 61, 62, 63, 64, 65, 66, 67, 68, 69, 70, 71, 72, 73, 74, 75, 76] (by decide +kernel) (by decide +kernel)
set_option maxRecDepth 20000 in
theorem gX9_product_X9_here : GoodIn wsX9_product (wsV RX9 193 RX9 yX9_here wsX9_here) := goodIn_app (goodIn_of _ (by decide +kernel)) ggX9_product_X9_here
theorem dX9_product_0 : decode cX9_product 0 = .ok (.aload_n 0, 1) := by decide +kernel
theorem dX9_product_1 : decode cX9_product 1 = .ok (.invokevirtual 215, 3) := by decide +kernel
theorem dX9_product_4 : decode cX9_product 4 = .ok (.istore_n 1, 1) := by decide +kernel
theorem dX9_product_5 : decode cX9_product 5 = .ok (.aload_n 0, 1) := by decide +kernel
theorem dX9_product_6 : decode cX9_product 6 = .ok (.invokevirtual 193, 3) := by decide +kernel
theorem dX9_product_9 : decode cX9_product 9 = .ok (.bipush 42, 2) := by decide +kernel
theorem dX9_product_11 : decode cX9_product 11 = .ok (.if_icmp .eq 21, 3) := by decide +kernel
theorem dX9_product_14 : decode cX9_product 14 = .ok (.aload_n 0, 1) := by decide +kernel
theorem dX9_product_15 : decode cX9_product 15 = .ok (.invokevirtual 193, 3) := by decide +kernel
theorem dX9_product_18 : decode cX9_product 18 = .ok (.bipush 47, 2) := by decide +kernel
theorem dX9_product_20 : decode cX9_product 20 = .ok (.if_icmp .eq 12, 3) := by decide +kernel
theorem dX9_product_23 : decode cX9_product 23 = .ok (.aload_n 0, 1) := by decide +kernel
theorem dX9_product_24 : decode cX9_product 24 = .ok (.invokevirtual 193, 3) := by decide +kernel
theorem dX9_product_27 : decode cX9_product 27 = .ok (.bipush 37, 2) := by decide +kernel
theorem dX9_product_29 : decode cX9_product 29 = .ok (.if_icmp .ne 62, 3) := by decide +kernel
theorem dX9_product_32 : decode cX9_product 32 = .ok (.aload_n 0, 1) := by decide +kernel
theorem dX9_product_33 : decode cX9_product 33 = .ok (.invokevirtual 193, 3) := by decide +kernel
theorem dX9_product_36 : decode cX9_product 36 = .ok (.istore_n 2, 1) := by decide +kernel
theorem dX9_product_37 : decode cX9_product 37 = .ok (.aload_n 0, 1) := by decide +kernel
theorem dX9_product_38 : decode cX9_product 38 = .ok (.dup, 1) := by decide +kernel
theorem dX9_product_39 : decode cX9_product 39 = .ok (.getfield 180, 3) := by decide +kernel
theorem dX9_product_42 : decode cX9_product 42 = .ok (.iconst 1, 1) := by decide +kernel
theorem dX9_product_43 : decode cX9_product 43 = .ok (.iadd, 1) := by decide +kernel
theorem dX9_product_44 : decode cX9_product 44 = .ok (.putfield 180, 3) := by decide +kernel
theorem dX9_product_47 : decode cX9_product 47 = .ok (.aload_n 0, 1) := by decide +kernel
theorem dX9_product_48 : decode cX9_product 48 = .ok (.invokevirtual 215, 3) := by decide +kernel
theorem dX9_product_51 : decode cX9_product 51 = .ok (.istore_n 3, 1) := by decide +kernel
theorem dX9_product_52 : decode cX9_product 52 = .ok (.iload_n 2, 1) := by decide +kernel
theorem dX9_product_53 : decode cX9_product 53 = .ok (.bipush 42, 2) := by decide +kernel
theorem dX9_product_55 : decode cX9_product 55 = .ok (.if_icmp .ne 9, 3) := by decide +kernel
theorem dX9_product_58 : decode cX9_product 58 = .ok (.iload_n 1, 1) := by decide +kernel
theorem dX9_product_59 : decode cX9_product 59 = .ok (.iload_n 3, 1) := by decide +kernel
theorem dX9_product_60 : decode cX9_product 60 = .ok (.imul, 1) := by decide +kernel
theorem dX9_product_61 : decode cX9_product 61 = .ok (.goto 26, 3) := by decide +kernel
theorem dX9_product_64 : decode cX9_product 64 = .ok (.iload_n 3, 1) := by decide +kernel
theorem dX9_product_65 : decode cX9_product 65 = .ok (.ifCond .ne 7, 3) := by decide +kernel
theorem dX9_product_68 : decode cX9_product 68 = .ok (.iconst 0, 1) := by decide +kernel
theorem dX9_product_69 : decode cX9_product 69 = .ok (.goto 18, 3) := by decide +kernel
theorem dX9_product_72 : decode cX9_product 72 = .ok (.iload_n 2, 1) := by decide +kernel
theorem dX9_product_73 : decode cX9_product 73 = .ok (.bipush 47, 2) := by decide +kernel
theorem dX9_product_75 : decode cX9_product 75 = .ok (.if_icmp .ne 9, 3) := by decide +kernel
theorem dX9_product_78 : decode cX9_product 78 = .ok (.iload_n 1, 1) := by decide +kernel
theorem dX9_product_79 : decode cX9_product 79 = .ok (.iload_n 3, 1) := by decide +kernel
theorem dX9_product_80 : decode cX9_product 80 = .ok (.idiv, 1) := by decide +kernel
theorem dX9_product_81 : decode cX9_product 81 = .ok (.goto 6, 3) := by decide +kernel
theorem dX9_product_84 : decode cX9_product 84 = .ok (.iload_n 1, 1) := by decide +kernel
theorem dX9_product_85 : decode cX9_product 85 = .ok (.iload_n 3, 1) := by decide +kernel
theorem dX9_product_86 : decode cX9_product 86 = .ok (.irem, 1) := by decide +kernel
theorem dX9_product_87 : decode cX9_product 87 = .ok (.istore_n 1, 1) := by decide +kernel
theorem dX9_product_88 : decode cX9_product 88 = .ok (.goto (-83), 3) := by decide +kernel
theorem dX9_product_91 : decode cX9_product 91 = .ok (.iload_n 1, 1) := by decide +kernel
theorem dX9_product_92 : decode cX9_product 92 = .ok (.ireturn, 1) := by decide +kernel
set_option maxRecDepth 20000 in
theorem ggX9_unit_X9_here : GoodIn wsX9_unit wsX9_here := goodIn_r _ [10, 2, 11, 12, 13, 14, 54, 55, 56, 57, 58, 59, 60, 61, 62, 63, 64, 65, 66, 67, 68, 69, 70, 71, 72, 73, 74, 75, 76] (by decide +kernel) (by decide +kernel)
set_option maxRecDepth 20000 in
theorem gX9_unit_X9_here : GoodIn wsX9_unit (wsV RX9 193 RX9 yX9_here wsX9_here) := goodIn_app (goodIn_of _ (by decide +kernel)) ggX9_unit_X9_here
set_option maxRecDepth 20000 in
theorem ggX9_unit_X9_wrong : GoodIn wsX9_unit wsX9_wrong := goodIn_r _ [18, 12, 2, 54, 55, 56, 57, 58, 59, 60, 61, 62, 63, 64, 65, 66, 67, 68, 69, 70, 71, 72, 73, 74, 75, 76] (by decide +kernel) (by decide +kernel)
set_option maxRecDepth 20000 in
theorem gX9_unit_X9_wrong : GoodIn wsX9_unit (wsV RX9 221 RX9 yX9_wrong wsX9_wrong) := goodIn_app (goodIn_of _ (by decide +kernel)) ggX9_unit_X9_wrong
set_option maxRecDepth 20000 in
theorem ggX9_unit_X9_either : GoodIn wsX9_unit wsX9_either := goodIn_r _ [45, 46, 47, 48, 9, 25, 26, 27, 28, 2, 6, 7, 8, 10, 11, 12, 13, 14, 37, 38, 39, 40, 41, 42, 43, 44, 49, 22, 23, 24, 50, 51, 52, 53, 0, 1, 3, 4, 5, 15, 16, 17, 18, 19, 20, 21, 29, 30, 31, 32, 33, 34, 35, 36, 54, 55, 56, 57, 58, 59, 60, 61, 62, 63, 64, 65, 66, 67, 68, 69, 70, 71, 72, 73, 74, 75, 76] (by decide +kernel) (by decide +kernel)
set_option maxRecDepth 20000 in
theorem gX9_unit_X9_either : GoodIn wsX9_unit (wsV RX9 224 RX9 yX9_either wsX9_either) := goodIn_app (goodIn_of _ (by decide +kernel)) ggX9_unit_X9_either
set_option maxRecDepth 20000 in
theorem ggX9_unit_X9_unit : GoodIn wsX9_unit wsX9_unit := goodIn_r _ [0, 1, 2, 3, 4, 5, 6, 7, 8, 9, 10, 11, 12, 13, 14, 15, 16, 17, 18, 19, 20, 21, 22, 23, 24, 25, 26, 27, 28, 29, 30, 31, 32, 33, 34, 35, 36, 37, 38, 39, 40, 41, 42, 43, 44, 45, 46, 47, 48, 49, 50, 51, 52, 53, 54, 55, 56, 57, 58, 59, 60, 61, 62, 63, 64, 65, 66, 67, 68, 69, 70, 71, 72, 73, 74, 75, 76] (by decide +kernel) (by decide +kernel)
set_option maxRecDepth 20000 in
theorem gX9_unit_X9_unit : GoodIn wsX9_unit (wsV RX9 215 RX9 yX9_unit wsX9_unit) := goodIn_app (goodIn_of _ (by decide +kernel)) ggX9_unit_X9_unit
set_option maxRecDepth 20000 in
theorem ggX9_unit_X9_takes : GoodIn wsX9_unit wsX9_takes := goodIn_r _ [28, 2, 6, 7, 8, 9, 10, 11, 12, 13, 14, 54, 55, 56, 57, 58, 59, 60, 61, 62, 63, 64, 65, 66, 67, 68, 69, 70, 71, 72, 73, 74, 75, 76] (by decide +kernel) (by decide +kernel)
set_option maxRecDepth 20000 in
theorem gX9_unit_X9_takes : GoodIn wsX9_unit (wsV RX9 203 RX9 yX9_takes wsX9_takes) := goodIn_app (goodIn_of _ (by decide +kernel)) ggX9_unit_X9_takes
set_option maxRecDepth 20000 in
theorem ggX9_unit_X9_nameOf : GoodIn wsX9_unit wsX9_nameOf := goodIn_r _ [32, 33, 54, 55, 56, 57, 58, 59, 60, 61, 62, 63, 64, 65, 66, 67, 68, 69, 70, 71, 72, 73, 74, 75, 76] (by decide +kernel) (by decide +kernel)
set_option maxRecDepth 20000 in
theorem gX9_unit_X9_nameOf : GoodIn wsX9_unit (wsV RX9 227 RX9 yX9_nameOf wsX9_nameOf) := goodIn_app (goodIn_of _ (by decide +kernel)) ggX9_unit_X9_nameOf
set_option maxRecDepth 20000 in
theorem ggX9_unit_X9_in : GoodIn wsX9_unit wsX9_in := goodIn_r _ [36] (by decide +kernel) (by decide +kernel)
set_option maxRecDepth 20000 in
theorem gX9_unit_X9_in : GoodIn wsX9_unit (va_wsS RX9 54 yX9_in wsX9_in) := goodIn_app (goodIn_of _ (by decide +kernel)) ggX9_unit_X9_in
theorem dX9_unit_0 : decode cX9_unit 0 = .ok (.aload_n 0, 1) := by decide +kernel
theorem dX9_unit_1 : decode cX9_unit 1 = .ok (.invokevirtual 193, 3) := by decide +kernel
theorem dX9_unit_4 : decode cX9_unit 4 = .ok (.istore_n 1, 1) := by decide +kernel
theorem dX9_unit_5 : decode cX9_unit 5 = .ok (.iload_n 1, 1) := by decide +kernel
theorem dX9_unit_6 : decode cX9_unit 6 = .ok (.bipush 33, 2) := by decide +kernel
theorem dX9_unit_8 : decode cX9_unit 8 = .ok (.if_icmp .eq 9, 3) := by decide +kernel
theorem dX9_unit_11 : decode cX9_unit 11 = .ok (.iload_n 1, 1) := by decide +kernel
theorem dX9_unit_12 : decode cX9_unit 12 = .ok (.bipush 40, 2) := by decide +kernel
theorem dX9_unit_14 : decode cX9_unit 14 = .ok (.if_icmp .ne 104, 3) := by decide +kernel
theorem dX9_unit_17 : decode cX9_unit 17 = .ok (.aload_n 0, 1) := by decide +kernel
theorem dX9_unit_18 : decode cX9_unit 18 = .ok (.getfield 218, 3) := by decide +kernel
theorem dX9_unit_21 : decode cX9_unit 21 = .ok (.iconst 5, 1) := by decide +kernel
theorem dX9_unit_22 : decode cX9_unit 22 = .ok (.if_icmp .ne 8, 3) := by decide +kernel
theorem dX9_unit_25 : decode cX9_unit 25 = .ok (.aload_n 0, 1) := by decide +kernel
theorem dX9_unit_26 : decode cX9_unit 26 = .ok (.invokevirtual 221, 3) := by decide +kernel
theorem dX9_unit_29 : decode cX9_unit 29 = .ok (.ireturn, 1) := by decide +kernel
theorem dX9_unit_30 : decode cX9_unit 30 = .ok (.aload_n 0, 1) := by decide +kernel
theorem dX9_unit_31 : decode cX9_unit 31 = .ok (.dup, 1) := by decide +kernel
theorem dX9_unit_32 : decode cX9_unit 32 = .ok (.getfield 218, 3) := by decide +kernel
theorem dX9_unit_35 : decode cX9_unit 35 = .ok (.iconst 1, 1) := by decide +kernel
theorem dX9_unit_36 : decode cX9_unit 36 = .ok (.iadd, 1) := by decide +kernel
theorem dX9_unit_37 : decode cX9_unit 37 = .ok (.putfield 218, 3) := by decide +kernel
theorem dX9_unit_40 : decode cX9_unit 40 = .ok (.aload_n 0, 1) := by decide +kernel
theorem dX9_unit_41 : decode cX9_unit 41 = .ok (.dup, 1) := by decide +kernel
theorem dX9_unit_42 : decode cX9_unit 42 = .ok (.getfield 180, 3) := by decide +kernel
theorem dX9_unit_45 : decode cX9_unit 45 = .ok (.iconst 1, 1) := by decide +kernel
theorem dX9_unit_46 : decode cX9_unit 46 = .ok (.iadd, 1) := by decide +kernel
theorem dX9_unit_47 : decode cX9_unit 47 = .ok (.putfield 180, 3) := by decide +kernel
theorem dX9_unit_50 : decode cX9_unit 50 = .ok (.iload_n 1, 1) := by decide +kernel
theorem dX9_unit_51 : decode cX9_unit 51 = .ok (.bipush 40, 2) := by decide +kernel
theorem dX9_unit_53 : decode cX9_unit 53 = .ok (.if_icmp .ne 10, 3) := by decide +kernel
theorem dX9_unit_56 : decode cX9_unit 56 = .ok (.aload_n 0, 1) := by decide +kernel
theorem dX9_unit_57 : decode cX9_unit 57 = .ok (.invokevirtual 224, 3) := by decide +kernel
theorem dX9_unit_60 : decode cX9_unit 60 = .ok (.goto 7, 3) := by decide +kernel
theorem dX9_unit_63 : decode cX9_unit 63 = .ok (.aload_n 0, 1) := by decide +kernel
theorem dX9_unit_64 : decode cX9_unit 64 = .ok (.invokevirtual 215, 3) := by decide +kernel
theorem dX9_unit_67 : decode cX9_unit 67 = .ok (.istore_n 2, 1) := by decide +kernel
theorem dX9_unit_68 : decode cX9_unit 68 = .ok (.iload_n 1, 1) := by decide +kernel
theorem dX9_unit_69 : decode cX9_unit 69 = .ok (.bipush 40, 2) := by decide +kernel
theorem dX9_unit_71 : decode cX9_unit 71 = .ok (.if_icmp .ne 17, 3) := by decide +kernel
theorem dX9_unit_74 : decode cX9_unit 74 = .ok (.aload_n 0, 1) := by decide +kernel
theorem dX9_unit_75 : decode cX9_unit 75 = .ok (.bipush 41, 2) := by decide +kernel
theorem dX9_unit_77 : decode cX9_unit 77 = .ok (.invokevirtual 203, 3) := by decide +kernel
theorem dX9_unit_80 : decode cX9_unit 80 = .ok (.ifCond .ne 8, 3) := by decide +kernel
theorem dX9_unit_83 : decode cX9_unit 83 = .ok (.aload_n 0, 1) := by decide +kernel
theorem dX9_unit_84 : decode cX9_unit 84 = .ok (.invokevirtual 221, 3) := by decide +kernel
theorem dX9_unit_87 : decode cX9_unit 87 = .ok (.ireturn, 1) := by decide +kernel
theorem dX9_unit_88 : decode cX9_unit 88 = .ok (.aload_n 0, 1) := by decide +kernel
theorem dX9_unit_89 : decode cX9_unit 89 = .ok (.dup, 1) := by decide +kernel
theorem dX9_unit_90 : decode cX9_unit 90 = .ok (.getfield 218, 3) := by decide +kernel
theorem dX9_unit_93 : decode cX9_unit 93 = .ok (.iconst 1, 1) := by decide +kernel
theorem dX9_unit_94 : decode cX9_unit 94 = .ok (.isub, 1) := by decide +kernel
theorem dX9_unit_95 : decode cX9_unit 95 = .ok (.putfield 218, 3) := by decide +kernel
theorem dX9_unit_98 : decode cX9_unit 98 = .ok (.iload_n 1, 1) := by decide +kernel
theorem dX9_unit_99 : decode cX9_unit 99 = .ok (.bipush 40, 2) := by decide +kernel
theorem dX9_unit_101 : decode cX9_unit 101 = .ok (.if_icmp .ne 7, 3) := by decide +kernel
theorem dX9_unit_104 : decode cX9_unit 104 = .ok (.iload_n 2, 1) := by decide +kernel
theorem dX9_unit_105 : decode cX9_unit 105 = .ok (.goto 12, 3) := by decide +kernel
theorem dX9_unit_108 : decode cX9_unit 108 = .ok (.iload_n 2, 1) := by decide +kernel
theorem dX9_unit_109 : decode cX9_unit 109 = .ok (.ifCond .ne 7, 3) := by decide +kernel
theorem dX9_unit_112 : decode cX9_unit 112 = .ok (.iconst 1, 1) := by decide +kernel
theorem dX9_unit_113 : decode cX9_unit 113 = .ok (.goto 4, 3) := by decide +kernel
theorem dX9_unit_116 : decode cX9_unit 116 = .ok (.iconst 0, 1) := by decide +kernel
theorem dX9_unit_117 : decode cX9_unit 117 = .ok (.ireturn, 1) := by decide +kernel
theorem dX9_unit_118 : decode cX9_unit 118 = .ok (.aload_n 0, 1) := by decide +kernel
theorem dX9_unit_119 : decode cX9_unit 119 = .ok (.iload_n 1, 1) := by decide +kernel
theorem dX9_unit_120 : decode cX9_unit 120 = .ok (.invokevirtual 227, 3) := by decide +kernel
theorem dX9_unit_123 : decode cX9_unit 123 = .ok (.istore_n 2, 1) := by decide +kernel
theorem dX9_unit_124 : decode cX9_unit 124 = .ok (.iload_n 2, 1) := by decide +kernel
theorem dX9_unit_125 : decode cX9_unit 125 = .ok (.ifCond .lt 20, 3) := by decide +kernel
theorem dX9_unit_128 : decode cX9_unit 128 = .ok (.aload_n 0, 1) := by decide +kernel
theorem dX9_unit_129 : decode cX9_unit 129 = .ok (.dup, 1) := by decide +kernel
theorem dX9_unit_130 : decode cX9_unit 130 = .ok (.getfield 180, 3) := by decide +kernel
theorem dX9_unit_133 : decode cX9_unit 133 = .ok (.iconst 1, 1) := by decide +kernel
theorem dX9_unit_134 : decode cX9_unit 134 = .ok (.iadd, 1) := by decide +kernel
theorem dX9_unit_135 : decode cX9_unit 135 = .ok (.putfield 180, 3) := by decide +kernel
theorem dX9_unit_138 : decode cX9_unit 138 = .ok (.aload_n 0, 1) := by decide +kernel
theorem dX9_unit_139 : decode cX9_unit 139 = .ok (.getfield 35, 3) := by decide +kernel
theorem dX9_unit_142 : decode cX9_unit 142 = .ok (.iload_n 2, 1) := by decide +kernel
theorem dX9_unit_143 : decode cX9_unit 143 = .ok (.iaload, 1) := by decide +kernel
theorem dX9_unit_144 : decode cX9_unit 144 = .ok (.ireturn, 1) := by decide +kernel
theorem dX9_unit_145 : decode cX9_unit 145 = .ok (.iconst 0, 1) := by decide +kernel
theorem dX9_unit_146 : decode cX9_unit 146 = .ok (.istore_n 3, 1) := by decide +kernel
theorem dX9_unit_147 : decode cX9_unit 147 = .ok (.iconst 0, 1) := by decide +kernel
theorem dX9_unit_148 : decode cX9_unit 148 = .ok (.istore 4, 2) := by decide +kernel
theorem dX9_unit_150 : decode cX9_unit 150 = .ok (.iload 4, 2) := by decide +kernel
theorem dX9_unit_152 : decode cX9_unit 152 = .ok (.iconst 4, 1) := by decide +kernel
theorem dX9_unit_153 : decode cX9_unit 153 = .ok (.if_icmp .ge 49, 3) := by decide +kernel
theorem dX9_unit_156 : decode cX9_unit 156 = .ok (.aload_n 0, 1) := by decide +kernel
theorem dX9_unit_157 : decode cX9_unit 157 = .ok (.invokevirtual 193, 3) := by decide +kernel
theorem dX9_unit_160 : decode cX9_unit 160 = .ok (.i2l, 1) := by decide +kernel
theorem dX9_unit_161 : decode cX9_unit 161 = .ok (.ldc2_w 230, 3) := by decide +kernel
theorem dX9_unit_164 : decode cX9_unit 164 = .ok (.ldc2_w 232, 3) := by decide +kernel
theorem dX9_unit_167 : decode cX9_unit 167 = .ok (.invokestatic 54, 3) := by decide +kernel
theorem dX9_unit_170 : decode cX9_unit 170 = .ok (.ifCond .eq 32, 3) := by decide +kernel
theorem dX9_unit_173 : decode cX9_unit 173 = .ok (.bipush 10, 2) := by decide +kernel
theorem dX9_unit_175 : decode cX9_unit 175 = .ok (.iload_n 3, 1) := by decide +kernel
theorem dX9_unit_176 : decode cX9_unit 176 = .ok (.imul, 1) := by decide +kernel
theorem dX9_unit_177 : decode cX9_unit 177 = .ok (.aload_n 0, 1) := by decide +kernel
theorem dX9_unit_178 : decode cX9_unit 178 = .ok (.invokevirtual 193, 3) := by decide +kernel
theorem dX9_unit_181 : decode cX9_unit 181 = .ok (.iadd, 1) := by decide +kernel
theorem dX9_unit_182 : decode cX9_unit 182 = .ok (.bipush 48, 2) := by decide +kernel
