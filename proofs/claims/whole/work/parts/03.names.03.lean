theorem dX8_route_16 : decode cX8_route 16 = .ok (.iload_n 3, 1) := by decide +kernel
theorem dX8_route_17 : decode cX8_route 17 = .ok (.iconst (-1), 1) := by decide +kernel
theorem dX8_route_18 : decode cX8_route 18 = .ok (.if_icmp .ge 9, 3) := by decide +kernel
theorem dX8_route_21 : decode cX8_route 21 = .ok (.aload_n 0, 1) := by decide +kernel
theorem dX8_route_22 : decode cX8_route 22 = .ok (.iconst 1, 1) := by decide +kernel
theorem dX8_route_23 : decode cX8_route 23 = .ok (.invokevirtual 79, 3) := by decide +kernel
theorem dX8_route_26 : decode cX8_route 26 = .ok (.ireturn, 1) := by decide +kernel
theorem dX8_route_27 : decode cX8_route 27 = .ok (.aload_n 0, 1) := by decide +kernel
theorem dX8_route_28 : decode cX8_route 28 = .ok (.getfield 16, 3) := by decide +kernel
theorem dX8_route_31 : decode cX8_route 31 = .ok (.getfield 70, 3) := by decide +kernel
theorem dX8_route_34 : decode cX8_route 34 = .ok (.astore 4, 2) := by decide +kernel
theorem dX8_route_36 : decode cX8_route 36 = .ok (.aload 4, 2) := by decide +kernel
theorem dX8_route_38 : decode cX8_route 38 = .ok (.iload_n 1, 1) := by decide +kernel
theorem dX8_route_39 : decode cX8_route 39 = .ok (.iload_n 2, 1) := by decide +kernel
theorem dX8_route_40 : decode cX8_route 40 = .ok (.invokevirtual 99, 3) := by decide +kernel
theorem dX8_route_43 : decode cX8_route 43 = .ok (.ifCond .lt 14, 3) := by decide +kernel
theorem dX8_route_46 : decode cX8_route 46 = .ok (.iload_n 3, 1) := by decide +kernel
theorem dX8_route_47 : decode cX8_route 47 = .ok (.aload 4, 2) := by decide +kernel
theorem dX8_route_49 : decode cX8_route 49 = .ok (.iload_n 1, 1) := by decide +kernel
theorem dX8_route_50 : decode cX8_route 50 = .ok (.iload_n 2, 1) := by decide +kernel
theorem dX8_route_51 : decode cX8_route 51 = .ok (.invokevirtual 103, 3) := by decide +kernel
theorem dX8_route_54 : decode cX8_route 54 = .ok (.if_icmp .lt 9, 3) := by decide +kernel
theorem dX8_route_57 : decode cX8_route 57 = .ok (.aload_n 0, 1) := by decide +kernel
theorem dX8_route_58 : decode cX8_route 58 = .ok (.iconst 2, 1) := by decide +kernel
theorem dX8_route_59 : decode cX8_route 59 = .ok (.invokevirtual 79, 3) := by decide +kernel
theorem dX8_route_62 : decode cX8_route 62 = .ok (.ireturn, 1) := by decide +kernel
theorem dX8_route_63 : decode cX8_route 63 = .ok (.iload_n 3, 1) := by decide +kernel
theorem dX8_route_64 : decode cX8_route 64 = .ok (.ifCond .ge 13, 3) := by decide +kernel
theorem dX8_route_67 : decode cX8_route 67 = .ok (.aload 4, 2) := by decide +kernel
theorem dX8_route_69 : decode cX8_route 69 = .ok (.iload_n 1, 1) := by decide +kernel
theorem dX8_route_70 : decode cX8_route 70 = .ok (.iload_n 2, 1) := by decide +kernel
theorem dX8_route_71 : decode cX8_route 71 = .ok (.invokevirtual 103, 3) := by decide +kernel
theorem dX8_route_74 : decode cX8_route 74 = .ok (.goto 11, 3) := by decide +kernel
theorem dX8_route_77 : decode cX8_route 77 = .ok (.aload 4, 2) := by decide +kernel
theorem dX8_route_79 : decode cX8_route 79 = .ok (.iload_n 1, 1) := by decide +kernel
theorem dX8_route_80 : decode cX8_route 80 = .ok (.iload_n 2, 1) := by decide +kernel
theorem dX8_route_81 : decode cX8_route 81 = .ok (.iload_n 3, 1) := by decide +kernel
theorem dX8_route_82 : decode cX8_route 82 = .ok (.invokevirtual 106, 3) := by decide +kernel
theorem dX8_route_85 : decode cX8_route 85 = .ok (.ireturn, 1) := by decide +kernel
set_option maxRecDepth 20000 in
theorem ggX8_rule_X8_isOutside : GoodIn wsX8_rule wsX8_isOutside := goodIn_r _ [7] (by decide +kernel) (by decide +kernel)
set_option maxRecDepth 20000 in
theorem gX8_rule_X8_isOutside : GoodIn wsX8_rule (va_wsS RX8 87 yX8_isOutside wsX8_isOutside) := goodIn_app (goodIn_of _ (by decide +kernel)) ggX8_rule_X8_isOutside
set_option maxRecDepth 20000 in
theorem ggX8_rule_X8_refuse : GoodIn wsX8_rule wsX8_refuse := goodIn_r _ [11, 12, 13, 14, 15, 16, 17, 18, 19, 20, 21, 22, 23, 24] (by decide +kernel) (by decide +kernel)
set_option maxRecDepth 20000 in
theorem gX8_rule_X8_refuse : GoodIn wsX8_rule (wsV RX8 79 RX8 yX8_refuse wsX8_refuse) := goodIn_app (goodIn_of _ (by decide +kernel)) ggX8_rule_X8_refuse
theorem dX8_rule_0 : decode cX8_rule 0 = .ok (.iload_n 1, 1) := by decide +kernel
theorem dX8_rule_1 : decode cX8_rule 1 = .ok (.ifCond .ne 31, 3) := by decide +kernel
theorem dX8_rule_4 : decode cX8_rule 4 = .ok (.iload_n 2, 1) := by decide +kernel
theorem dX8_rule_5 : decode cX8_rule 5 = .ok (.iconst 0, 1) := by decide +kernel
theorem dX8_rule_6 : decode cX8_rule 6 = .ok (.bipush 99, 2) := by decide +kernel
theorem dX8_rule_8 : decode cX8_rule 8 = .ok (.invokestatic 87, 3) := by decide +kernel
theorem dX8_rule_11 : decode cX8_rule 11 = .ok (.ifCond .ne 21, 3) := by decide +kernel
theorem dX8_rule_14 : decode cX8_rule 14 = .ok (.aload_n 0, 1) := by decide +kernel
theorem dX8_rule_15 : decode cX8_rule 15 = .ok (.getfield 16, 3) := by decide +kernel
theorem dX8_rule_18 : decode cX8_rule 18 = .ok (.getfield 109, 3) := by decide +kernel
theorem dX8_rule_21 : decode cX8_rule 21 = .ok (.istore_n 3, 1) := by decide +kernel
theorem dX8_rule_22 : decode cX8_rule 22 = .ok (.aload_n 0, 1) := by decide +kernel
theorem dX8_rule_23 : decode cX8_rule 23 = .ok (.getfield 16, 3) := by decide +kernel
theorem dX8_rule_26 : decode cX8_rule 26 = .ok (.iload_n 2, 1) := by decide +kernel
theorem dX8_rule_27 : decode cX8_rule 27 = .ok (.putfield 109, 3) := by decide +kernel
theorem dX8_rule_30 : decode cX8_rule 30 = .ok (.iload_n 3, 1) := by decide +kernel
theorem dX8_rule_31 : decode cX8_rule 31 = .ok (.ireturn, 1) := by decide +kernel
theorem dX8_rule_32 : decode cX8_rule 32 = .ok (.iload_n 1, 1) := by decide +kernel
theorem dX8_rule_33 : decode cX8_rule 33 = .ok (.iconst 1, 1) := by decide +kernel
theorem dX8_rule_34 : decode cX8_rule 34 = .ok (.if_icmp .ne 31, 3) := by decide +kernel
theorem dX8_rule_37 : decode cX8_rule 37 = .ok (.iload_n 2, 1) := by decide +kernel
theorem dX8_rule_38 : decode cX8_rule 38 = .ok (.iconst 2, 1) := by decide +kernel
theorem dX8_rule_39 : decode cX8_rule 39 = .ok (.bipush 9, 2) := by decide +kernel
theorem dX8_rule_41 : decode cX8_rule 41 = .ok (.invokestatic 87, 3) := by decide +kernel
theorem dX8_rule_44 : decode cX8_rule 44 = .ok (.ifCond .ne 21, 3) := by decide +kernel
theorem dX8_rule_47 : decode cX8_rule 47 = .ok (.aload_n 0, 1) := by decide +kernel
theorem dX8_rule_48 : decode cX8_rule 48 = .ok (.getfield 16, 3) := by decide +kernel
theorem dX8_rule_51 : decode cX8_rule 51 = .ok (.getfield 112, 3) := by decide +kernel
theorem dX8_rule_54 : decode cX8_rule 54 = .ok (.istore_n 3, 1) := by decide +kernel
theorem dX8_rule_55 : decode cX8_rule 55 = .ok (.aload_n 0, 1) := by decide +kernel
theorem dX8_rule_56 : decode cX8_rule 56 = .ok (.getfield 16, 3) := by decide +kernel
theorem dX8_rule_59 : decode cX8_rule 59 = .ok (.iload_n 2, 1) := by decide +kernel
theorem dX8_rule_60 : decode cX8_rule 60 = .ok (.putfield 112, 3) := by decide +kernel
theorem dX8_rule_63 : decode cX8_rule 63 = .ok (.iload_n 3, 1) := by decide +kernel
theorem dX8_rule_64 : decode cX8_rule 64 = .ok (.ireturn, 1) := by decide +kernel
theorem dX8_rule_65 : decode cX8_rule 65 = .ok (.aload_n 0, 1) := by decide +kernel
theorem dX8_rule_66 : decode cX8_rule 66 = .ok (.iconst 1, 1) := by decide +kernel
theorem dX8_rule_67 : decode cX8_rule 67 = .ok (.invokevirtual 79, 3) := by decide +kernel
theorem dX8_rule_70 : decode cX8_rule 70 = .ok (.ireturn, 1) := by decide +kernel
set_option maxRecDepth 20000 in
theorem ggX8_loss_X8_isPart : GoodIn wsX8_loss wsX8_isPart := goodIn_r _ [6, 7, 8, 5, 9] (by decide +kernel) (by decide +kernel)
set_option maxRecDepth 20000 in
theorem gX8_loss_X8_isPart : GoodIn wsX8_loss (va_wsS RX8 115 yX8_isPart wsX8_isPart) := goodIn_app (goodIn_of _ (by decide +kernel)) ggX8_loss_X8_isPart
set_option maxRecDepth 20000 in
theorem ggX8_loss_X8_refuse : GoodIn wsX8_loss wsX8_refuse := goodIn_r _ [13, 14, 15, 16, 17, 18, 19, 20, 21, 22, 23, 24, 25, 26] (by decide +kernel) (by decide +kernel)
set_option maxRecDepth 20000 in
theorem gX8_loss_X8_refuse : GoodIn wsX8_loss (wsV RX8 79 RX8 yX8_refuse wsX8_refuse) := goodIn_app (goodIn_of _ (by decide +kernel)) ggX8_loss_X8_refuse
theorem dX8_loss_0 : decode cX8_loss 0 = .ok (.iload_n 1, 1) := by decide +kernel
theorem dX8_loss_1 : decode cX8_loss 1 = .ok (.bipush 9, 2) := by decide +kernel
theorem dX8_loss_3 : decode cX8_loss 3 = .ok (.invokestatic 115, 3) := by decide +kernel
theorem dX8_loss_6 : decode cX8_loss 6 = .ok (.ifCond .ne 9, 3) := by decide +kernel
theorem dX8_loss_9 : decode cX8_loss 9 = .ok (.aload_n 0, 1) := by decide +kernel
theorem dX8_loss_10 : decode cX8_loss 10 = .ok (.iconst 1, 1) := by decide +kernel
theorem dX8_loss_11 : decode cX8_loss 11 = .ok (.invokevirtual 79, 3) := by decide +kernel
theorem dX8_loss_14 : decode cX8_loss 14 = .ok (.ireturn, 1) := by decide +kernel
theorem dX8_loss_15 : decode cX8_loss 15 = .ok (.aload_n 0, 1) := by decide +kernel
theorem dX8_loss_16 : decode cX8_loss 16 = .ok (.getfield 16, 3) := by decide +kernel
theorem dX8_loss_19 : decode cX8_loss 19 = .ok (.getfield 118, 3) := by decide +kernel
theorem dX8_loss_22 : decode cX8_loss 22 = .ok (.istore_n 2, 1) := by decide +kernel
theorem dX8_loss_23 : decode cX8_loss 23 = .ok (.aload_n 0, 1) := by decide +kernel
theorem dX8_loss_24 : decode cX8_loss 24 = .ok (.getfield 16, 3) := by decide +kernel
theorem dX8_loss_27 : decode cX8_loss 27 = .ok (.iload_n 1, 1) := by decide +kernel
theorem dX8_loss_28 : decode cX8_loss 28 = .ok (.putfield 118, 3) := by decide +kernel
theorem dX8_loss_31 : decode cX8_loss 31 = .ok (.iload_n 2, 1) := by decide +kernel
theorem dX8_loss_32 : decode cX8_loss 32 = .ok (.ireturn, 1) := by decide +kernel
set_option maxRecDepth 20000 in
theorem ggX8_word_X8_faultOfWord : GoodIn wsX8_word wsX8_faultOfWord := goodIn_r _ [6, 1, 7, 8, 9, 10, 11, 5, 12, 13, 14, 15, 16, 17, 18, 19, 20, 21, 22, 23, 24, 25, 26, 27, 28, 29, 30, 31, 32, 33, 34, 35, 88, 89, 90, 91, 92, 93, 94, 95, 96, 97, 98, 99, 100, 101, 102, 103, 104, 105, 106, 107, 108, 109, 110, 111, 112, 113, 114, 115, 116, 117, 118, 119, 120, 121, 122, 123, 124, 125, 126, 127, 128, 129] (by decide +kernel) (by decide +kernel)
set_option maxRecDepth 20000 in
theorem gX8_word_X8_faultOfWord : GoodIn wsX8_word (wsV RX8 121 RX8 yX8_faultOfWord wsX8_faultOfWord) := goodIn_app (goodIn_of _ (by decide +kernel)) ggX8_word_X8_faultOfWord
set_option maxRecDepth 20000 in
theorem ggX8_word_X8_refuse : GoodIn wsX8_word wsX8_refuse := goodIn_r _ [39, 40, 41, 88, 89, 90, 91, 92, 93, 94, 95, 96, 97, 98] (by decide +kernel) (by decide +kernel)
set_option maxRecDepth 20000 in
theorem gX8_word_X8_refuse : GoodIn wsX8_word (wsV RX8 79 RX8 yX8_refuse wsX8_refuse) := goodIn_app (goodIn_of _ (by decide +kernel)) ggX8_word_X8_refuse
set_option maxRecDepth 20000 in
theorem ggX8_word_X7_send : GoodIn wsX8_word wsX7_send := goodIn_r _ [46, 47, 48, 49, 50, 51, 52, 53, 54, 55, 56, 57, 58, 30, 31, 32, 33, 34, 35, 59, 60, 61, 62, 63, 64, 65, 66, 67, 68, 69, 70, 71, 72, 73, 74, 75, 76, 77, 78, 79, 80, 81, 82, 83, 84, 85, 86, 87, 99, 100, 101, 102, 103, 104, 105, 106, 107, 108, 109, 110, 111, 112, 113, 114, 115, 127, 128, 129, 116, 117, 118, 119, 120, 121, 122, 123, 124, 125, 126] (by decide +kernel) (by decide +kernel)
set_option maxRecDepth 20000 in
theorem gX8_word_X7_send : GoodIn wsX8_word (wsV RX8 124 RX7 yX7_send wsX7_send) := goodIn_app (goodIn_of _ (by decide +kernel)) ggX8_word_X7_send
theorem dX8_word_0 : decode cX8_word 0 = .ok (.aload_n 0, 1) := by decide +kernel
theorem dX8_word_1 : decode cX8_word 1 = .ok (.iload_n 1, 1) := by decide +kernel
theorem dX8_word_2 : decode cX8_word 2 = .ok (.iload_n 2, 1) := by decide +kernel
theorem dX8_word_3 : decode cX8_word 3 = .ok (.iload_n 3, 1) := by decide +kernel
theorem dX8_word_4 : decode cX8_word 4 = .ok (.invokevirtual 121, 3) := by decide +kernel
theorem dX8_word_7 : decode cX8_word 7 = .ok (.istore 4, 2) := by decide +kernel
theorem dX8_word_9 : decode cX8_word 9 = .ok (.iload 4, 2) := by decide +kernel
theorem dX8_word_11 : decode cX8_word 11 = .ok (.ifCond .eq 12, 3) := by decide +kernel
theorem dX8_word_14 : decode cX8_word 14 = .ok (.aload_n 0, 1) := by decide +kernel
theorem dX8_word_15 : decode cX8_word 15 = .ok (.iload 4, 2) := by decide +kernel
theorem dX8_word_17 : decode cX8_word 17 = .ok (.invokevirtual 79, 3) := by decide +kernel
theorem dX8_word_20 : decode cX8_word 20 = .ok (.goto 20, 3) := by decide +kernel
theorem dX8_word_23 : decode cX8_word 23 = .ok (.aload_n 0, 1) := by decide +kernel
theorem dX8_word_24 : decode cX8_word 24 = .ok (.getfield 16, 3) := by decide +kernel
theorem dX8_word_27 : decode cX8_word 27 = .ok (.iload_n 1, 1) := by decide +kernel
theorem dX8_word_28 : decode cX8_word 28 = .ok (.iload_n 2, 1) := by decide +kernel
theorem dX8_word_29 : decode cX8_word 29 = .ok (.bipush 10, 2) := by decide +kernel
theorem dX8_word_31 : decode cX8_word 31 = .ok (.idiv, 1) := by decide +kernel
theorem dX8_word_32 : decode cX8_word 32 = .ok (.iload_n 2, 1) := by decide +kernel
theorem dX8_word_33 : decode cX8_word 33 = .ok (.bipush 10, 2) := by decide +kernel
theorem dX8_word_35 : decode cX8_word 35 = .ok (.irem, 1) := by decide +kernel
theorem dX8_word_36 : decode cX8_word 36 = .ok (.iload_n 3, 1) := by decide +kernel
theorem dX8_word_37 : decode cX8_word 37 = .ok (.invokevirtual 124, 3) := by decide +kernel
theorem dX8_word_40 : decode cX8_word 40 = .ok (.ireturn, 1) := by decide +kernel
set_option maxRecDepth 20000 in
theorem ggX8_ofWord_X8_isWord : GoodIn wsX8_ofWord wsX8_isWord := goodIn_r _ [15, 1, 2, 16, 17, 18, 14, 19, 26, 27, 28, 29, 30, 31, 32, 33, 34, 35, 36, 37, 38, 39, 40, 41, 42, 43, 44, 45, 46, 47, 48, 49, 50, 51, 52, 53, 54, 55, 56, 57, 58, 59, 60, 61, 62, 63, 64] (by decide +kernel) (by decide +kernel)
set_option maxRecDepth 20000 in
theorem gX8_ofWord_X8_isWord : GoodIn wsX8_ofWord (wsV RX8 128 RX8 yX8_isWord wsX8_isWord) := goodIn_app (goodIn_of _ (by decide +kernel)) ggX8_ofWord_X8_isWord
set_option maxRecDepth 20000 in
theorem ggX8_ofWord_X8_refuse : GoodIn wsX8_ofWord wsX8_refuse := goodIn_r _ [23, 24, 25, 26, 27, 28, 29, 30, 31, 32, 33, 34, 35, 36] (by decide +kernel) (by decide +kernel)
set_option maxRecDepth 20000 in
theorem gX8_ofWord_X8_refuse : GoodIn wsX8_ofWord (wsV RX8 79 RX8 yX8_refuse wsX8_refuse) := goodIn_app (goodIn_of _ (by decide +kernel)) ggX8_ofWord_X8_refuse
theorem dX8_ofWord_0 : decode cX8_ofWord 0 = .ok (.aload_n 0, 1) := by decide +kernel
theorem dX8_ofWord_1 : decode cX8_ofWord 1 = .ok (.iload_n 1, 1) := by decide +kernel
theorem dX8_ofWord_2 : decode cX8_ofWord 2 = .ok (.invokevirtual 128, 3) := by decide +kernel
theorem dX8_ofWord_5 : decode cX8_ofWord 5 = .ok (.ifCond .ne 9, 3) := by decide +kernel
theorem dX8_ofWord_8 : decode cX8_ofWord 8 = .ok (.aload_n 0, 1) := by decide +kernel
theorem dX8_ofWord_9 : decode cX8_ofWord 9 = .ok (.iconst 1, 1) := by decide +kernel
theorem dX8_ofWord_10 : decode cX8_ofWord 10 = .ok (.invokevirtual 79, 3) := by decide +kernel
theorem dX8_ofWord_13 : decode cX8_ofWord 13 = .ok (.ireturn, 1) := by decide +kernel
theorem dX8_ofWord_14 : decode cX8_ofWord 14 = .ok (.aload_n 0, 1) := by decide +kernel
theorem dX8_ofWord_15 : decode cX8_ofWord 15 = .ok (.getfield 16, 3) := by decide +kernel
theorem dX8_ofWord_18 : decode cX8_ofWord 18 = .ok (.getfield 29, 3) := by decide +kernel
theorem dX8_ofWord_21 : decode cX8_ofWord 21 = .ok (.astore_n 3, 1) := by decide +kernel
theorem dX8_ofWord_22 : decode cX8_ofWord 22 = .ok (.iload_n 2, 1) := by decide +kernel
theorem dX8_ofWord_23 : decode cX8_ofWord 23 = .ok (.tableswitch 101 0 7 #[45, 52, 59, 66, 73, 80, 87, 94], 45) := by decide +kernel
theorem dX8_ofWord_68 : decode cX8_ofWord 68 = .ok (.aload_n 3, 1) := by decide +kernel
theorem dX8_ofWord_69 : decode cX8_ofWord 69 = .ok (.getfield 131, 3) := by decide +kernel
theorem dX8_ofWord_72 : decode cX8_ofWord 72 = .ok (.iload_n 1, 1) := by decide +kernel
theorem dX8_ofWord_73 : decode cX8_ofWord 73 = .ok (.iaload, 1) := by decide +kernel
theorem dX8_ofWord_74 : decode cX8_ofWord 74 = .ok (.ireturn, 1) := by decide +kernel
theorem dX8_ofWord_75 : decode cX8_ofWord 75 = .ok (.aload_n 3, 1) := by decide +kernel
theorem dX8_ofWord_76 : decode cX8_ofWord 76 = .ok (.getfield 136, 3) := by decide +kernel
theorem dX8_ofWord_79 : decode cX8_ofWord 79 = .ok (.iload_n 1, 1) := by decide +kernel
theorem dX8_ofWord_80 : decode cX8_ofWord 80 = .ok (.iaload, 1) := by decide +kernel
theorem dX8_ofWord_81 : decode cX8_ofWord 81 = .ok (.ireturn, 1) := by decide +kernel
theorem dX8_ofWord_82 : decode cX8_ofWord 82 = .ok (.aload_n 3, 1) := by decide +kernel
theorem dX8_ofWord_83 : decode cX8_ofWord 83 = .ok (.getfield 139, 3) := by decide +kernel
theorem dX8_ofWord_86 : decode cX8_ofWord 86 = .ok (.iload_n 1, 1) := by decide +kernel
theorem dX8_ofWord_87 : decode cX8_ofWord 87 = .ok (.iaload, 1) := by decide +kernel
theorem dX8_ofWord_88 : decode cX8_ofWord 88 = .ok (.ireturn, 1) := by decide +kernel
theorem dX8_ofWord_89 : decode cX8_ofWord 89 = .ok (.aload_n 3, 1) := by decide +kernel
theorem dX8_ofWord_90 : decode cX8_ofWord 90 = .ok (.getfield 142, 3) := by decide +kernel
theorem dX8_ofWord_93 : decode cX8_ofWord 93 = .ok (.iload_n 1, 1) := by decide +kernel
theorem dX8_ofWord_94 : decode cX8_ofWord 94 = .ok (.iaload, 1) := by decide +kernel
theorem dX8_ofWord_95 : decode cX8_ofWord 95 = .ok (.ireturn, 1) := by decide +kernel
theorem dX8_ofWord_96 : decode cX8_ofWord 96 = .ok (.aload_n 3, 1) := by decide +kernel
theorem dX8_ofWord_97 : decode cX8_ofWord 97 = .ok (.getfield 145, 3) := by decide +kernel
theorem dX8_ofWord_100 : decode cX8_ofWord 100 = .ok (.iload_n 1, 1) := by decide +kernel
theorem dX8_ofWord_101 : decode cX8_ofWord 101 = .ok (.iaload, 1) := by decide +kernel
theorem dX8_ofWord_102 : decode cX8_ofWord 102 = .ok (.ireturn, 1) := by decide +kernel
theorem dX8_ofWord_103 : decode cX8_ofWord 103 = .ok (.aload_n 3, 1) := by decide +kernel
theorem dX8_ofWord_104 : decode cX8_ofWord 104 = .ok (.getfield 147, 3) := by decide +kernel
theorem dX8_ofWord_107 : decode cX8_ofWord 107 = .ok (.iload_n 1, 1) := by decide +kernel
theorem dX8_ofWord_108 : decode cX8_ofWord 108 = .ok (.iaload, 1) := by decide +kernel
theorem dX8_ofWord_109 : decode cX8_ofWord 109 = .ok (.ireturn, 1) := by decide +kernel
theorem dX8_ofWord_110 : decode cX8_ofWord 110 = .ok (.aload_n 3, 1) := by decide +kernel
theorem dX8_ofWord_111 : decode cX8_ofWord 111 = .ok (.getfield 150, 3) := by decide +kernel
theorem dX8_ofWord_114 : decode cX8_ofWord 114 = .ok (.iload_n 1, 1) := by decide +kernel
theorem dX8_ofWord_115 : decode cX8_ofWord 115 = .ok (.iaload, 1) := by decide +kernel
theorem dX8_ofWord_116 : decode cX8_ofWord 116 = .ok (.ireturn, 1) := by decide +kernel
theorem dX8_ofWord_117 : decode cX8_ofWord 117 = .ok (.aload_n 3, 1) := by decide +kernel
theorem dX8_ofWord_118 : decode cX8_ofWord 118 = .ok (.getfield 153, 3) := by decide +kernel
theorem dX8_ofWord_121 : decode cX8_ofWord 121 = .ok (.iload_n 1, 1) := by decide +kernel
theorem dX8_ofWord_122 : decode cX8_ofWord 122 = .ok (.iaload, 1) := by decide +kernel
theorem dX8_ofWord_123 : decode cX8_ofWord 123 = .ok (.ireturn, 1) := by decide +kernel
theorem dX8_ofWord_124 : decode cX8_ofWord 124 = .ok (.aload_n 0, 1) := by decide +kernel
theorem dX8_ofWord_125 : decode cX8_ofWord 125 = .ok (.iconst 1, 1) := by decide +kernel
theorem dX8_ofWord_126 : decode cX8_ofWord 126 = .ok (.invokevirtual 79, 3) := by decide +kernel
theorem dX8_ofWord_129 : decode cX8_ofWord 129 = .ok (.ireturn, 1) := by decide +kernel
set_option maxRecDepth 20000 in
theorem ggX8_lose_X8_isWord : GoodIn wsX8_lose wsX8_isWord := goodIn_r _ [9, 1, 2, 10, 11, 12, 8, 13, 28, 29, 30, 31, 32, 33, 34, 35, 36, 37, 38, 39, 40, 41, 42, 43, 44, 45, 46, 47, 48, 49, 50, 51, 52, 53, 54, 55, 56, 57, 58, 59, 60, 61, 62, 63, 64, 65, 66] (by decide +kernel) (by decide +kernel)
set_option maxRecDepth 20000 in
theorem gX8_lose_X8_isWord : GoodIn wsX8_lose (wsV RX8 128 RX8 yX8_isWord wsX8_isWord) := goodIn_app (goodIn_of _ (by decide +kernel)) ggX8_lose_X8_isWord
set_option maxRecDepth 20000 in
theorem ggX8_lose_X8_refuse : GoodIn wsX8_lose wsX8_refuse := goodIn_r _ [17, 18, 19, 28, 29, 30, 31, 32, 33, 34, 35, 36, 37, 38] (by decide +kernel) (by decide +kernel)
set_option maxRecDepth 20000 in
theorem gX8_lose_X8_refuse : GoodIn wsX8_lose (wsV RX8 79 RX8 yX8_refuse wsX8_refuse) := goodIn_app (goodIn_of _ (by decide +kernel)) ggX8_lose_X8_refuse
set_option maxRecDepth 20000 in
theorem ggX8_lose_X0_drop : GoodIn wsX8_lose wsX0_drop := goodIn_r _ [24, 25, 26, 27, 56, 57, 58, 59, 60, 61, 62, 63, 64, 65, 66] (by decide +kernel) (by decide +kernel)
set_option maxRecDepth 20000 in
theorem gX8_lose_X0_drop : GoodIn wsX8_lose (wsV RX8 159 RX0 yX0_drop wsX0_drop) := goodIn_app (goodIn_of _ (by decide +kernel)) ggX8_lose_X0_drop
theorem dX8_lose_0 : decode cX8_lose 0 = .ok (.aload_n 0, 1) := by decide +kernel
theorem dX8_lose_1 : decode cX8_lose 1 = .ok (.iload_n 1, 1) := by decide +kernel
theorem dX8_lose_2 : decode cX8_lose 2 = .ok (.invokevirtual 128, 3) := by decide +kernel
theorem dX8_lose_5 : decode cX8_lose 5 = .ok (.ifCond .ne 9, 3) := by decide +kernel
theorem dX8_lose_8 : decode cX8_lose 8 = .ok (.aload_n 0, 1) := by decide +kernel
theorem dX8_lose_9 : decode cX8_lose 9 = .ok (.iconst 1, 1) := by decide +kernel
theorem dX8_lose_10 : decode cX8_lose 10 = .ok (.invokevirtual 79, 3) := by decide +kernel
theorem dX8_lose_13 : decode cX8_lose 13 = .ok (.ireturn, 1) := by decide +kernel
theorem dX8_lose_14 : decode cX8_lose 14 = .ok (.aload_n 0, 1) := by decide +kernel
theorem dX8_lose_15 : decode cX8_lose 15 = .ok (.getfield 16, 3) := by decide +kernel
theorem dX8_lose_18 : decode cX8_lose 18 = .ok (.getfield 29, 3) := by decide +kernel
theorem dX8_lose_21 : decode cX8_lose 21 = .ok (.getfield 147, 3) := by decide +kernel
theorem dX8_lose_24 : decode cX8_lose 24 = .ok (.iload_n 1, 1) := by decide +kernel
theorem dX8_lose_25 : decode cX8_lose 25 = .ok (.iaload, 1) := by decide +kernel
theorem dX8_lose_26 : decode cX8_lose 26 = .ok (.aload_n 0, 1) := by decide +kernel
theorem dX8_lose_27 : decode cX8_lose 27 = .ok (.getfield 16, 3) := by decide +kernel
theorem dX8_lose_30 : decode cX8_lose 30 = .ok (.getfield 156, 3) := by decide +kernel
theorem dX8_lose_33 : decode cX8_lose 33 = .ok (.if_icmp .gt 9, 3) := by decide +kernel
theorem dX8_lose_36 : decode cX8_lose 36 = .ok (.aload_n 0, 1) := by decide +kernel
theorem dX8_lose_37 : decode cX8_lose 37 = .ok (.iconst 3, 1) := by decide +kernel
theorem dX8_lose_38 : decode cX8_lose 38 = .ok (.invokevirtual 79, 3) := by decide +kernel
theorem dX8_lose_41 : decode cX8_lose 41 = .ok (.ireturn, 1) := by decide +kernel
theorem dX8_lose_42 : decode cX8_lose 42 = .ok (.aload_n 0, 1) := by decide +kernel
theorem dX8_lose_43 : decode cX8_lose 43 = .ok (.getfield 16, 3) := by decide +kernel
theorem dX8_lose_46 : decode cX8_lose 46 = .ok (.getfield 29, 3) := by decide +kernel
theorem dX8_lose_49 : decode cX8_lose 49 = .ok (.iload_n 1, 1) := by decide +kernel
theorem dX8_lose_50 : decode cX8_lose 50 = .ok (.invokevirtual 159, 3) := by decide +kernel
theorem dX8_lose_53 : decode cX8_lose 53 = .ok (.iconst 1, 1) := by decide +kernel
theorem dX8_lose_54 : decode cX8_lose 54 = .ok (.ireturn, 1) := by decide +kernel
set_option maxRecDepth 20000 in
theorem ggX8_as_X8_isWord : GoodIn wsX8_as wsX8_isWord := goodIn_r _ [9, 1, 2, 10, 11, 12, 8, 13, 24, 25, 26, 27, 28, 29, 30, 31, 32, 33, 34, 35, 36, 37, 38, 39, 40, 41, 42, 43, 44, 45, 46, 47, 48, 49, 50, 51, 52, 53, 54, 55, 56, 57, 58, 59, 60, 61, 62] (by decide +kernel) (by decide +kernel)
set_option maxRecDepth 20000 in
theorem gX8_as_X8_isWord : GoodIn wsX8_as (wsV RX8 128 RX8 yX8_isWord wsX8_isWord) := goodIn_app (goodIn_of _ (by decide +kernel)) ggX8_as_X8_isWord
set_option maxRecDepth 20000 in
theorem ggX8_as_X8_isOutside : GoodIn wsX8_as wsX8_isOutside := goodIn_r _ [13] (by decide +kernel) (by decide +kernel)
set_option maxRecDepth 20000 in
theorem gX8_as_X8_isOutside : GoodIn wsX8_as (va_wsS RX8 87 yX8_isOutside wsX8_isOutside) := goodIn_app (goodIn_of _ (by decide +kernel)) ggX8_as_X8_isOutside
set_option maxRecDepth 20000 in
theorem ggX8_as_X8_refuse : GoodIn wsX8_as wsX8_refuse := goodIn_r _ [17, 18, 19, 24, 25, 26, 27, 28, 29, 30, 31, 32, 33, 34] (by decide +kernel) (by decide +kernel)
set_option maxRecDepth 20000 in
theorem gX8_as_X8_refuse : GoodIn wsX8_as (wsV RX8 79 RX8 yX8_refuse wsX8_refuse) := goodIn_app (goodIn_of _ (by decide +kernel)) ggX8_as_X8_refuse
set_option maxRecDepth 20000 in
theorem ggX8_as_X8_isUnder : GoodIn wsX8_as wsX8_isUnder := goodIn_r _ [22, 23] (by decide +kernel) (by decide +kernel)
set_option maxRecDepth 20000 in
theorem gX8_as_X8_isUnder : GoodIn wsX8_as (va_wsS RX8 163 yX8_isUnder wsX8_isUnder) := goodIn_app (goodIn_of _ (by decide +kernel)) ggX8_as_X8_isUnder
theorem dX8_as_0 : decode cX8_as 0 = .ok (.aload_n 0, 1) := by decide +kernel
theorem dX8_as_1 : decode cX8_as 1 = .ok (.iload_n 1, 1) := by decide +kernel
theorem dX8_as_2 : decode cX8_as 2 = .ok (.invokevirtual 128, 3) := by decide +kernel
theorem dX8_as_5 : decode cX8_as 5 = .ok (.ifCond .eq 13, 3) := by decide +kernel
theorem dX8_as_8 : decode cX8_as 8 = .ok (.iload_n 2, 1) := by decide +kernel
theorem dX8_as_9 : decode cX8_as 9 = .ok (.iconst 0, 1) := by decide +kernel
theorem dX8_as_10 : decode cX8_as 10 = .ok (.bipush 6, 2) := by decide +kernel
theorem dX8_as_12 : decode cX8_as 12 = .ok (.invokestatic 87, 3) := by decide +kernel
theorem dX8_as_15 : decode cX8_as 15 = .ok (.ifCond .eq 9, 3) := by decide +kernel
theorem dX8_as_18 : decode cX8_as 18 = .ok (.aload_n 0, 1) := by decide +kernel
theorem dX8_as_19 : decode cX8_as 19 = .ok (.iconst 1, 1) := by decide +kernel
theorem dX8_as_20 : decode cX8_as 20 = .ok (.invokevirtual 79, 3) := by decide +kernel
theorem dX8_as_23 : decode cX8_as 23 = .ok (.ireturn, 1) := by decide +kernel
theorem dX8_as_24 : decode cX8_as 24 = .ok (.aload_n 0, 1) := by decide +kernel
theorem dX8_as_25 : decode cX8_as 25 = .ok (.getfield 16, 3) := by decide +kernel
theorem dX8_as_28 : decode cX8_as 28 = .ok (.getfield 29, 3) := by decide +kernel
theorem dX8_as_31 : decode cX8_as 31 = .ok (.astore_n 3, 1) := by decide +kernel
theorem dX8_as_32 : decode cX8_as 32 = .ok (.aload_n 3, 1) := by decide +kernel
theorem dX8_as_33 : decode cX8_as 33 = .ok (.getfield 131, 3) := by decide +kernel
theorem dX8_as_36 : decode cX8_as 36 = .ok (.iload_n 1, 1) := by decide +kernel
theorem dX8_as_37 : decode cX8_as 37 = .ok (.iaload, 1) := by decide +kernel
theorem dX8_as_38 : decode cX8_as 38 = .ok (.iload_n 2, 1) := by decide +kernel
theorem dX8_as_39 : decode cX8_as 39 = .ok (.invokestatic 163, 3) := by decide +kernel
theorem dX8_as_42 : decode cX8_as 42 = .ok (.ifCond .eq 12, 3) := by decide +kernel
theorem dX8_as_45 : decode cX8_as 45 = .ok (.aload_n 3, 1) := by decide +kernel
theorem dX8_as_46 : decode cX8_as 46 = .ok (.getfield 150, 3) := by decide +kernel
theorem dX8_as_49 : decode cX8_as 49 = .ok (.iload_n 1, 1) := by decide +kernel
theorem dX8_as_50 : decode cX8_as 50 = .ok (.iaload, 1) := by decide +kernel
theorem dX8_as_51 : decode cX8_as 51 = .ok (.goto 8, 3) := by decide +kernel
theorem dX8_as_54 : decode cX8_as 54 = .ok (.aload_n 0, 1) := by decide +kernel
theorem dX8_as_55 : decode cX8_as 55 = .ok (.iconst 5, 1) := by decide +kernel
theorem dX8_as_56 : decode cX8_as 56 = .ok (.invokevirtual 79, 3) := by decide +kernel
theorem dX8_as_59 : decode cX8_as 59 = .ok (.ireturn, 1) := by decide +kernel
set_option maxRecDepth 20000 in
theorem ggX8_words_X8_isSheet : GoodIn wsX8_words wsX8_isSheet := goodIn_r _ [9, 10, 11, 8, 12] (by decide +kernel) (by decide +kernel)
set_option maxRecDepth 20000 in
theorem gX8_words_X8_isSheet : GoodIn wsX8_words (va_wsS RX8 166 yX8_isSheet wsX8_isSheet) := goodIn_app (goodIn_of _ (by decide +kernel)) ggX8_words_X8_isSheet
set_option maxRecDepth 20000 in
theorem ggX8_words_X8_refuse : GoodIn wsX8_words wsX8_refuse := goodIn_r _ [16, 17, 18, 95, 96, 97, 98, 99, 100, 101, 102, 103, 104, 105] (by decide +kernel) (by decide +kernel)
set_option maxRecDepth 20000 in
theorem gX8_words_X8_refuse : GoodIn wsX8_words (wsV RX8 79 RX8 yX8_refuse wsX8_refuse) := goodIn_app (goodIn_of _ (by decide +kernel)) ggX8_words_X8_refuse
set_option maxRecDepth 20000 in
theorem ggX8_words_X8_faultOfWord : GoodIn wsX8_words wsX8_faultOfWord := goodIn_r _ [22, 5, 23, 24, 25, 10, 11, 8, 12, 26, 27, 28, 29, 30, 31, 32, 33, 34, 35, 36, 37, 38, 39, 40, 41, 42, 43, 44, 45, 46, 47, 48, 95, 96, 97, 98, 99, 100, 101, 102, 103, 104, 105, 109, 110, 111, 112, 113, 114, 115, 116, 117, 118, 119, 120, 121, 122, 123, 124, 125, 126, 127, 128, 129, 130, 131, 132, 133, 134, 135, 136, 137, 138, 139] (by decide +kernel) (by decide +kernel)
set_option maxRecDepth 20000 in
theorem gX8_words_X8_faultOfWord : GoodIn wsX8_words (wsV RX8 121 RX8 yX8_faultOfWord wsX8_faultOfWord) := goodIn_app (goodIn_of _ (by decide +kernel)) ggX8_words_X8_faultOfWord
set_option maxRecDepth 20000 in
theorem ggX8_words_X7_send : GoodIn wsX8_words wsX7_send := goodIn_r _ [53, 54, 55, 56, 57, 58, 59, 60, 61, 62, 63, 64, 65, 43, 44, 45, 46, 47, 48, 66, 67, 68, 69, 70, 71, 72, 73, 74, 75, 76, 77, 78, 79, 80, 81, 82, 83, 84, 85, 86, 87, 88, 89, 90, 91, 92, 93, 94, 109, 110, 111, 112, 113, 114, 115, 116, 117, 118, 119, 120, 121, 122, 123, 124, 125, 137, 138, 139, 126, 127, 128, 129, 130, 131, 132, 133, 134, 135, 136] (by decide +kernel) (by decide +kernel)
set_option maxRecDepth 20000 in
theorem gX8_words_X7_send : GoodIn wsX8_words (wsV RX8 124 RX7 yX7_send wsX7_send) := goodIn_app (goodIn_of _ (by decide +kernel)) ggX8_words_X7_send
theorem dX8_words_0 : decode cX8_words 0 = .ok (.iload_n 1, 1) := by decide +kernel
theorem dX8_words_1 : decode cX8_words 1 = .ok (.invokestatic 166, 3) := by decide +kernel
theorem dX8_words_4 : decode cX8_words 4 = .ok (.ifCond .ne 9, 3) := by decide +kernel
theorem dX8_words_7 : decode cX8_words 7 = .ok (.aload_n 0, 1) := by decide +kernel
theorem dX8_words_8 : decode cX8_words 8 = .ok (.iconst 1, 1) := by decide +kernel
theorem dX8_words_9 : decode cX8_words 9 = .ok (.invokevirtual 79, 3) := by decide +kernel
theorem dX8_words_12 : decode cX8_words 12 = .ok (.ireturn, 1) := by decide +kernel
theorem dX8_words_13 : decode cX8_words 13 = .ok (.aload_n 0, 1) := by decide +kernel
theorem dX8_words_14 : decode cX8_words 14 = .ok (.getfield 65, 3) := by decide +kernel
theorem dX8_words_17 : decode cX8_words 17 = .ok (.iload_n 1, 1) := by decide +kernel
theorem dX8_words_18 : decode cX8_words 18 = .ok (.aaload, 1) := by decide +kernel
theorem dX8_words_19 : decode cX8_words 19 = .ok (.astore_n 2, 1) := by decide +kernel
theorem dX8_words_20 : decode cX8_words 20 = .ok (.aload_n 2, 1) := by decide +kernel
theorem dX8_words_21 : decode cX8_words 21 = .ok (.getfield 169, 3) := by decide +kernel
theorem dX8_words_24 : decode cX8_words 24 = .ok (.ifCond .ne 9, 3) := by decide +kernel
theorem dX8_words_27 : decode cX8_words 27 = .ok (.aload_n 0, 1) := by decide +kernel
theorem dX8_words_28 : decode cX8_words 28 = .ok (.iconst 2, 1) := by decide +kernel
theorem dX8_words_29 : decode cX8_words 29 = .ok (.invokevirtual 79, 3) := by decide +kernel
theorem dX8_words_32 : decode cX8_words 32 = .ok (.ireturn, 1) := by decide +kernel
theorem dX8_words_33 : decode cX8_words 33 = .ok (.iconst 0, 1) := by decide +kernel
theorem dX8_words_34 : decode cX8_words 34 = .ok (.istore_n 3, 1) := by decide +kernel
theorem dX8_words_35 : decode cX8_words 35 = .ok (.iconst 0, 1) := by decide +kernel
theorem dX8_words_36 : decode cX8_words 36 = .ok (.istore 4, 2) := by decide +kernel
theorem dX8_words_38 : decode cX8_words 38 = .ok (.iload 4, 2) := by decide +kernel
theorem dX8_words_40 : decode cX8_words 40 = .ok (.iconst 2, 1) := by decide +kernel
theorem dX8_words_41 : decode cX8_words 41 = .ok (.iadd, 1) := by decide +kernel
theorem dX8_words_42 : decode cX8_words 42 = .ok (.aload_n 2, 1) := by decide +kernel
theorem dX8_words_43 : decode cX8_words 43 = .ok (.getfield 172, 3) := by decide +kernel
theorem dX8_words_46 : decode cX8_words 46 = .ok (.if_icmp .ge 81, 3) := by decide +kernel
theorem dX8_words_49 : decode cX8_words 49 = .ok (.aload_n 2, 1) := by decide +kernel
theorem dX8_words_50 : decode cX8_words 50 = .ok (.getfield 175, 3) := by decide +kernel
theorem dX8_words_53 : decode cX8_words 53 = .ok (.iload 4, 2) := by decide +kernel
theorem dX8_words_55 : decode cX8_words 55 = .ok (.iaload, 1) := by decide +kernel
theorem dX8_words_56 : decode cX8_words 56 = .ok (.istore 5, 2) := by decide +kernel
theorem dX8_words_58 : decode cX8_words 58 = .ok (.aload_n 2, 1) := by decide +kernel
theorem dX8_words_59 : decode cX8_words 59 = .ok (.getfield 175, 3) := by decide +kernel
theorem dX8_words_62 : decode cX8_words 62 = .ok (.iload 4, 2) := by decide +kernel
theorem dX8_words_64 : decode cX8_words 64 = .ok (.iconst 1, 1) := by decide +kernel
theorem dX8_words_65 : decode cX8_words 65 = .ok (.iadd, 1) := by decide +kernel
theorem dX8_words_66 : decode cX8_words 66 = .ok (.iaload, 1) := by decide +kernel
theorem dX8_words_67 : decode cX8_words 67 = .ok (.istore 6, 2) := by decide +kernel
theorem dX8_words_69 : decode cX8_words 69 = .ok (.aload_n 2, 1) := by decide +kernel
theorem dX8_words_70 : decode cX8_words 70 = .ok (.getfield 175, 3) := by decide +kernel
theorem dX8_words_73 : decode cX8_words 73 = .ok (.iload 4, 2) := by decide +kernel
theorem dX8_words_75 : decode cX8_words 75 = .ok (.iconst 2, 1) := by decide +kernel
theorem dX8_words_76 : decode cX8_words 76 = .ok (.iadd, 1) := by decide +kernel
theorem dX8_words_77 : decode cX8_words 77 = .ok (.iaload, 1) := by decide +kernel
theorem dX8_words_78 : decode cX8_words 78 = .ok (.istore 7, 2) := by decide +kernel
theorem dX8_words_80 : decode cX8_words 80 = .ok (.aload_n 0, 1) := by decide +kernel
theorem dX8_words_81 : decode cX8_words 81 = .ok (.iload 5, 2) := by decide +kernel
theorem dX8_words_83 : decode cX8_words 83 = .ok (.iload 6, 2) := by decide +kernel
theorem dX8_words_85 : decode cX8_words 85 = .ok (.iload 7, 2) := by decide +kernel
theorem dX8_words_87 : decode cX8_words 87 = .ok (.invokevirtual 121, 3) := by decide +kernel
theorem dX8_words_90 : decode cX8_words 90 = .ok (.ifCond .eq 6, 3) := by decide +kernel
theorem dX8_words_93 : decode cX8_words 93 = .ok (.goto 34, 3) := by decide +kernel
theorem dX8_words_96 : decode cX8_words 96 = .ok (.aload_n 0, 1) := by decide +kernel
theorem dX8_words_97 : decode cX8_words 97 = .ok (.getfield 16, 3) := by decide +kernel
theorem dX8_words_100 : decode cX8_words 100 = .ok (.iload 5, 2) := by decide +kernel
theorem dX8_words_102 : decode cX8_words 102 = .ok (.iload 6, 2) := by decide +kernel
theorem dX8_words_104 : decode cX8_words 104 = .ok (.bipush 10, 2) := by decide +kernel
theorem dX8_words_106 : decode cX8_words 106 = .ok (.idiv, 1) := by decide +kernel
theorem dX8_words_107 : decode cX8_words 107 = .ok (.iload 6, 2) := by decide +kernel
theorem dX8_words_109 : decode cX8_words 109 = .ok (.bipush 10, 2) := by decide +kernel
theorem dX8_words_111 : decode cX8_words 111 = .ok (.irem, 1) := by decide +kernel
theorem dX8_words_112 : decode cX8_words 112 = .ok (.iload 7, 2) := by decide +kernel
theorem dX8_words_114 : decode cX8_words 114 = .ok (.invokevirtual 124, 3) := by decide +kernel
theorem dX8_words_117 : decode cX8_words 117 = .ok (.pop, 1) := by decide +kernel
theorem dX8_words_118 : decode cX8_words 118 = .ok (.iinc 3 1, 3) := by decide +kernel
theorem dX8_words_121 : decode cX8_words 121 = .ok (.iinc 4 3, 3) := by decide +kernel
theorem dX8_words_124 : decode cX8_words 124 = .ok (.goto (-86), 3) := by decide +kernel
theorem dX8_words_127 : decode cX8_words 127 = .ok (.iload_n 3, 1) := by decide +kernel
theorem dX8_words_128 : decode cX8_words 128 = .ok (.ireturn, 1) := by decide +kernel
set_option maxRecDepth 20000 in
theorem ggX8_came_X8_isPlace : GoodIn wsX8_came wsX8_isPlace := goodIn_r _ [7, 1, 8, 9, 10, 11, 6, 12, 36, 37, 38, 39, 40, 41, 42, 43, 44, 45, 46, 47, 48, 49, 50, 51, 52, 53, 54, 55, 56, 57, 58, 59, 60, 61, 62, 63, 64, 65, 66] (by decide +kernel) (by decide +kernel)
set_option maxRecDepth 20000 in
theorem gX8_came_X8_isPlace : GoodIn wsX8_came (wsV RX8 95 RX8 yX8_isPlace wsX8_isPlace) := goodIn_app (goodIn_of _ (by decide +kernel)) ggX8_came_X8_isPlace
set_option maxRecDepth 20000 in
theorem ggX8_came_X8_isPact : GoodIn wsX8_came wsX8_isPact := goodIn_r _ [15, 10, 11, 6, 12] (by decide +kernel) (by decide +kernel)
set_option maxRecDepth 20000 in
theorem gX8_came_X8_isPact : GoodIn wsX8_came (va_wsS RX8 178 yX8_isPact wsX8_isPact) := goodIn_app (goodIn_of _ (by decide +kernel)) ggX8_came_X8_isPact
set_option maxRecDepth 20000 in
theorem ggX8_came_X8_isOutside : GoodIn wsX8_came wsX8_isOutside := goodIn_r _ [12] (by decide +kernel) (by decide +kernel)
set_option maxRecDepth 20000 in
theorem gX8_came_X8_isOutside : GoodIn wsX8_came (va_wsS RX8 87 yX8_isOutside wsX8_isOutside) := goodIn_app (goodIn_of _ (by decide +kernel)) ggX8_came_X8_isOutside
set_option maxRecDepth 20000 in
theorem ggX8_came_X8_refuse : GoodIn wsX8_came wsX8_refuse := goodIn_r _ [19, 20, 21, 36, 37, 38, 39, 40, 41, 42, 43, 44, 45, 46] (by decide +kernel) (by decide +kernel)
set_option maxRecDepth 20000 in
theorem gX8_came_X8_refuse : GoodIn wsX8_came (wsV RX8 79 RX8 yX8_refuse wsX8_refuse) := goodIn_app (goodIn_of _ (by decide +kernel)) ggX8_came_X8_refuse
set_option maxRecDepth 20000 in
theorem ggX8_came_X0_arrived : GoodIn wsX8_came wsX0_arrived := goodIn_r _ [26, 27, 28, 29, 30, 31, 32, 25, 33, 34, 35, 67, 68, 69, 70, 71, 72, 73, 74, 75, 76, 77] (by decide +kernel) (by decide +kernel)
set_option maxRecDepth 20000 in
theorem gX8_came_X0_arrived : GoodIn wsX8_came (wsV RX8 181 RX0 yX0_arrived wsX0_arrived) := goodIn_app (goodIn_of _ (by decide +kernel)) ggX8_came_X0_arrived
theorem dX8_came_0 : decode cX8_came 0 = .ok (.aload_n 0, 1) := by decide +kernel
theorem dX8_came_1 : decode cX8_came 1 = .ok (.iload_n 1, 1) := by decide +kernel
theorem dX8_came_2 : decode cX8_came 2 = .ok (.invokevirtual 95, 3) := by decide +kernel
theorem dX8_came_5 : decode cX8_came 5 = .ok (.ifCond .eq 21, 3) := by decide +kernel
theorem dX8_came_8 : decode cX8_came 8 = .ok (.iload_n 2, 1) := by decide +kernel
theorem dX8_came_9 : decode cX8_came 9 = .ok (.invokestatic 178, 3) := by decide +kernel
theorem dX8_came_12 : decode cX8_came 12 = .ok (.ifCond .eq 14, 3) := by decide +kernel
theorem dX8_came_15 : decode cX8_came 15 = .ok (.iload_n 3, 1) := by decide +kernel
theorem dX8_came_16 : decode cX8_came 16 = .ok (.iconst 0, 1) := by decide +kernel
theorem dX8_came_17 : decode cX8_came 17 = .ok (.sipush 399, 3) := by decide +kernel
theorem dX8_came_20 : decode cX8_came 20 = .ok (.invokestatic 87, 3) := by decide +kernel
theorem dX8_came_23 : decode cX8_came 23 = .ok (.ifCond .eq 9, 3) := by decide +kernel
theorem dX8_came_26 : decode cX8_came 26 = .ok (.aload_n 0, 1) := by decide +kernel
theorem dX8_came_27 : decode cX8_came 27 = .ok (.iconst 1, 1) := by decide +kernel
theorem dX8_came_28 : decode cX8_came 28 = .ok (.invokevirtual 79, 3) := by decide +kernel
theorem dX8_came_31 : decode cX8_came 31 = .ok (.ireturn, 1) := by decide +kernel
theorem dX8_came_32 : decode cX8_came 32 = .ok (.aload_n 0, 1) := by decide +kernel
theorem dX8_came_33 : decode cX8_came 33 = .ok (.getfield 16, 3) := by decide +kernel
theorem dX8_came_36 : decode cX8_came 36 = .ok (.getfield 29, 3) := by decide +kernel
theorem dX8_came_39 : decode cX8_came 39 = .ok (.iload_n 1, 1) := by decide +kernel
theorem dX8_came_40 : decode cX8_came 40 = .ok (.iload_n 2, 1) := by decide +kernel
theorem dX8_came_41 : decode cX8_came 41 = .ok (.iload_n 3, 1) := by decide +kernel
theorem dX8_came_42 : decode cX8_came 42 = .ok (.invokevirtual 181, 3) := by decide +kernel
theorem dX8_came_45 : decode cX8_came 45 = .ok (.ireturn, 1) := by decide +kernel
set_option maxRecDepth 20000 in
theorem ggX8_stance_X8_isPlace : GoodIn wsX8_stance wsX8_isPlace := goodIn_r _ [8, 1, 9, 10, 11, 12, 7, 13, 118, 119, 120, 121, 122, 123, 124, 125, 126, 127, 128, 129, 130, 131, 132, 133, 134, 135, 136, 137, 138, 139, 140, 141, 142, 143, 144, 145, 146, 147, 148] (by decide +kernel) (by decide +kernel)
set_option maxRecDepth 20000 in
theorem gX8_stance_X8_isPlace : GoodIn wsX8_stance (wsV RX8 95 RX8 yX8_isPlace wsX8_isPlace) := goodIn_app (goodIn_of _ (by decide +kernel)) ggX8_stance_X8_isPlace
set_option maxRecDepth 20000 in
theorem ggX8_stance_X8_isPact : GoodIn wsX8_stance wsX8_isPact := goodIn_r _ [16, 11, 12, 7, 13] (by decide +kernel) (by decide +kernel)
set_option maxRecDepth 20000 in
theorem gX8_stance_X8_isPact : GoodIn wsX8_stance (va_wsS RX8 178 yX8_isPact wsX8_isPact) := goodIn_app (goodIn_of _ (by decide +kernel)) ggX8_stance_X8_isPact
set_option maxRecDepth 20000 in
theorem ggX8_stance_X8_isOutside : GoodIn wsX8_stance wsX8_isOutside := goodIn_r _ [13] (by decide +kernel) (by decide +kernel)
set_option maxRecDepth 20000 in
theorem gX8_stance_X8_isOutside : GoodIn wsX8_stance (va_wsS RX8 87 yX8_isOutside wsX8_isOutside) := goodIn_app (goodIn_of _ (by decide +kernel)) ggX8_stance_X8_isOutside
set_option maxRecDepth 20000 in
theorem ggX8_stance_X8_refuse : GoodIn wsX8_stance wsX8_refuse := goodIn_r _ [20, 21, 22, 118, 119, 120, 121, 122, 123, 124, 125, 126, 127, 128] (by decide +kernel) (by decide +kernel)
set_option maxRecDepth 20000 in
theorem gX8_stance_X8_refuse : GoodIn wsX8_stance (wsV RX8 79 RX8 yX8_refuse wsX8_refuse) := goodIn_app (goodIn_of _ (by decide +kernel)) ggX8_stance_X8_refuse
set_option maxRecDepth 20000 in
theorem ggX8_stance_X4_standsIn : GoodIn wsX8_stance wsX4_standsIn := goodIn_r _ [27, 28, 29, 30, 31, 26, 32, 33, 34, 35, 36, 37, 38, 39, 40, 41, 42, 43, 44, 45, 46, 47, 48, 49, 50, 51, 52, 53, 54, 55, 56, 57, 58, 59, 60, 61, 62, 63, 64, 65, 66, 67, 68, 69, 70, 71, 72, 73, 74, 75, 76, 77, 78, 79, 80, 81, 82, 83, 84, 85, 86, 87, 88, 89, 90, 91, 92, 93, 94, 95, 96, 97, 98, 99, 100, 101, 102, 103, 104, 105, 106, 107, 108, 109, 110, 111, 112, 113, 114, 115, 116, 117, 149, 150, 151, 152, 153, 154, 155, 156, 157, 158, 159, 160, 161, 162, 163, 164, 165, 166, 167] (by decide +kernel) (by decide +kernel)
set_option maxRecDepth 20000 in
theorem gX8_stance_X4_standsIn : GoodIn wsX8_stance (wsV RX8 184 RX4 yX4_standsIn wsX4_standsIn) := goodIn_app (goodIn_of _ (by decide +kernel)) ggX8_stance_X4_standsIn
theorem dX8_stance_0 : decode cX8_stance 0 = .ok (.aload_n 0, 1) := by decide +kernel
theorem dX8_stance_1 : decode cX8_stance 1 = .ok (.iload_n 1, 1) := by decide +kernel
theorem dX8_stance_2 : decode cX8_stance 2 = .ok (.invokevirtual 95, 3) := by decide +kernel
theorem dX8_stance_5 : decode cX8_stance 5 = .ok (.ifCond .eq 25, 3) := by decide +kernel
theorem dX8_stance_8 : decode cX8_stance 8 = .ok (.iload_n 2, 1) := by decide +kernel
theorem dX8_stance_9 : decode cX8_stance 9 = .ok (.invokestatic 178, 3) := by decide +kernel
theorem dX8_stance_12 : decode cX8_stance 12 = .ok (.ifCond .eq 18, 3) := by decide +kernel
theorem dX8_stance_15 : decode cX8_stance 15 = .ok (.iload_n 3, 1) := by decide +kernel
theorem dX8_stance_16 : decode cX8_stance 16 = .ok (.iconst 0, 1) := by decide +kernel
theorem dX8_stance_17 : decode cX8_stance 17 = .ok (.aload_n 0, 1) := by decide +kernel
theorem dX8_stance_18 : decode cX8_stance 18 = .ok (.getfield 16, 3) := by decide +kernel
theorem dX8_stance_21 : decode cX8_stance 21 = .ok (.getfield 156, 3) := by decide +kernel
theorem dX8_stance_24 : decode cX8_stance 24 = .ok (.invokestatic 87, 3) := by decide +kernel
theorem dX8_stance_27 : decode cX8_stance 27 = .ok (.ifCond .eq 9, 3) := by decide +kernel
theorem dX8_stance_30 : decode cX8_stance 30 = .ok (.aload_n 0, 1) := by decide +kernel
theorem dX8_stance_31 : decode cX8_stance 31 = .ok (.iconst 1, 1) := by decide +kernel
theorem dX8_stance_32 : decode cX8_stance 32 = .ok (.invokevirtual 79, 3) := by decide +kernel
theorem dX8_stance_35 : decode cX8_stance 35 = .ok (.ireturn, 1) := by decide +kernel
theorem dX8_stance_36 : decode cX8_stance 36 = .ok (.aload_n 0, 1) := by decide +kernel
theorem dX8_stance_37 : decode cX8_stance 37 = .ok (.getfield 36, 3) := by decide +kernel
theorem dX8_stance_40 : decode cX8_stance 40 = .ok (.iload_n 1, 1) := by decide +kernel
theorem dX8_stance_41 : decode cX8_stance 41 = .ok (.iload_n 2, 1) := by decide +kernel
theorem dX8_stance_42 : decode cX8_stance 42 = .ok (.iload_n 3, 1) := by decide +kernel
theorem dX8_stance_43 : decode cX8_stance 43 = .ok (.invokevirtual 184, 3) := by decide +kernel
theorem dX8_stance_46 : decode cX8_stance 46 = .ok (.ireturn, 1) := by decide +kernel
set_option maxRecDepth 20000 in
theorem ggX8_made_X8_areTwo : GoodIn wsX8_made wsX8_areTwo := goodIn_r _ [5, 6, 7, 8, 4, 9, 10, 11, 12, 13, 14, 15, 128, 129, 130, 131, 132, 133, 134, 135, 136, 137, 138, 139, 140, 141, 142, 143, 144, 145, 146, 147, 148, 149, 150, 151, 152, 153, 154, 155, 156, 157, 158] (by decide +kernel) (by decide +kernel)
set_option maxRecDepth 20000 in
theorem gX8_made_X8_areTwo : GoodIn wsX8_made (wsV RX8 83 RX8 yX8_areTwo wsX8_areTwo) := goodIn_app (goodIn_of _ (by decide +kernel)) ggX8_made_X8_areTwo
set_option maxRecDepth 20000 in
theorem ggX8_made_X8_isPact : GoodIn wsX8_made wsX8_isPact := goodIn_r _ [18, 13, 14, 4, 15] (by decide +kernel) (by decide +kernel)
set_option maxRecDepth 20000 in
theorem gX8_made_X8_isPact : GoodIn wsX8_made (va_wsS RX8 178 yX8_isPact wsX8_isPact) := goodIn_app (goodIn_of _ (by decide +kernel)) ggX8_made_X8_isPact
set_option maxRecDepth 20000 in
theorem ggX8_made_X8_refuse : GoodIn wsX8_made wsX8_refuse := goodIn_r _ [22, 23, 24, 128, 129, 130, 131, 132, 133, 134, 135, 136, 137, 138] (by decide +kernel) (by decide +kernel)
set_option maxRecDepth 20000 in
theorem gX8_made_X8_refuse : GoodIn wsX8_made (wsV RX8 79 RX8 yX8_refuse wsX8_refuse) := goodIn_app (goodIn_of _ (by decide +kernel)) ggX8_made_X8_refuse
set_option maxRecDepth 20000 in
theorem ggX8_made_X8_firstBound : GoodIn wsX8_made wsX8_firstBound := goodIn_r _ [28, 29, 30, 31, 32, 33, 34, 10, 35, 36, 37, 38, 39, 40, 41, 42, 43, 44, 45, 46, 47, 48, 49, 50, 51, 52, 53, 54, 55, 56, 57, 58, 59, 60, 61, 62, 63, 64, 65, 66, 67, 68, 69, 70, 71, 72, 73, 74, 75, 76, 77, 78, 79, 80, 81, 82, 83, 84, 85, 86, 87, 88, 89, 90, 91, 92, 93, 94, 95, 96, 97, 98, 99, 100, 101, 102, 103, 104, 105, 106, 107, 108, 109, 110, 111, 112, 113, 114, 115, 116, 117, 118, 119, 120, 121, 122, 123, 124, 125, 126, 127, 128, 129, 130, 131, 132, 133, 134, 135, 136, 137, 138, 139, 140, 141, 142, 143, 144, 145, 146, 147, 148, 149, 150, 151, 152, 153, 154, 155, 159, 160, 161, 162, 163, 164, 165, 166, 167, 168, 169, 170, 171, 172, 173, 174, 175, 176, 177] (by decide +kernel) (by decide +kernel)
set_option maxRecDepth 20000 in
theorem gX8_made_X8_firstBound : GoodIn wsX8_made (wsV RX8 187 RX8 yX8_firstBound wsX8_firstBound) := goodIn_app (goodIn_of _ (by decide +kernel)) ggX8_made_X8_firstBound
theorem dX8_made_0 : decode cX8_made 0 = .ok (.aload_n 0, 1) := by decide +kernel
theorem dX8_made_1 : decode cX8_made 1 = .ok (.iload_n 1, 1) := by decide +kernel
theorem dX8_made_2 : decode cX8_made 2 = .ok (.iload_n 2, 1) := by decide +kernel
theorem dX8_made_3 : decode cX8_made 3 = .ok (.invokevirtual 83, 3) := by decide +kernel
theorem dX8_made_6 : decode cX8_made 6 = .ok (.ifCond .eq 10, 3) := by decide +kernel
theorem dX8_made_9 : decode cX8_made 9 = .ok (.iload_n 3, 1) := by decide +kernel
theorem dX8_made_10 : decode cX8_made 10 = .ok (.invokestatic 178, 3) := by decide +kernel
theorem dX8_made_13 : decode cX8_made 13 = .ok (.ifCond .ne 9, 3) := by decide +kernel
theorem dX8_made_16 : decode cX8_made 16 = .ok (.aload_n 0, 1) := by decide +kernel
theorem dX8_made_17 : decode cX8_made 17 = .ok (.iconst 1, 1) := by decide +kernel
theorem dX8_made_18 : decode cX8_made 18 = .ok (.invokevirtual 79, 3) := by decide +kernel
theorem dX8_made_21 : decode cX8_made 21 = .ok (.ireturn, 1) := by decide +kernel
theorem dX8_made_22 : decode cX8_made 22 = .ok (.aload_n 0, 1) := by decide +kernel
theorem dX8_made_23 : decode cX8_made 23 = .ok (.iload_n 1, 1) := by decide +kernel
theorem dX8_made_24 : decode cX8_made 24 = .ok (.iload_n 2, 1) := by decide +kernel
theorem dX8_made_25 : decode cX8_made 25 = .ok (.iload_n 3, 1) := by decide +kernel
theorem dX8_made_26 : decode cX8_made 26 = .ok (.invokevirtual 187, 3) := by decide +kernel
theorem dX8_made_29 : decode cX8_made 29 = .ok (.istore 4, 2) := by decide +kernel
theorem dX8_made_31 : decode cX8_made 31 = .ok (.iload 4, 2) := by decide +kernel
theorem dX8_made_33 : decode cX8_made 33 = .ok (.ifCond .ge 11, 3) := by decide +kernel
theorem dX8_made_36 : decode cX8_made 36 = .ok (.aload_n 0, 1) := by decide +kernel
theorem dX8_made_37 : decode cX8_made 37 = .ok (.iconst 2, 1) := by decide +kernel
theorem dX8_made_38 : decode cX8_made 38 = .ok (.invokevirtual 79, 3) := by decide +kernel
theorem dX8_made_41 : decode cX8_made 41 = .ok (.goto 5, 3) := by decide +kernel
theorem dX8_made_44 : decode cX8_made 44 = .ok (.iload 4, 2) := by decide +kernel
theorem dX8_made_46 : decode cX8_made 46 = .ok (.ireturn, 1) := by decide +kernel
set_option maxRecDepth 20000 in
theorem ggX8_knows_X8_isPlace : GoodIn wsX8_knows wsX8_isPlace := goodIn_r _ [7, 1, 8, 9, 10, 11, 6, 12, 41, 42, 43, 44, 45, 46, 47, 48, 49, 50, 51, 52, 53, 54, 55, 56, 57, 58, 59, 60, 61, 62, 63, 64, 65, 66, 67, 68, 69, 70, 71] (by decide +kernel) (by decide +kernel)
set_option maxRecDepth 20000 in
theorem gX8_knows_X8_isPlace : GoodIn wsX8_knows (wsV RX8 95 RX8 yX8_isPlace wsX8_isPlace) := goodIn_app (goodIn_of _ (by decide +kernel)) ggX8_knows_X8_isPlace
set_option maxRecDepth 20000 in
theorem ggX8_knows_X8_isPact : GoodIn wsX8_knows wsX8_isPact := goodIn_r _ [15, 10, 11, 6, 12] (by decide +kernel) (by decide +kernel)
set_option maxRecDepth 20000 in
theorem gX8_knows_X8_isPact : GoodIn wsX8_knows (va_wsS RX8 178 yX8_isPact wsX8_isPact) := goodIn_app (goodIn_of _ (by decide +kernel)) ggX8_knows_X8_isPact
set_option maxRecDepth 20000 in
theorem ggX8_knows_X8_isOutside : GoodIn wsX8_knows wsX8_isOutside := goodIn_r _ [12] (by decide +kernel) (by decide +kernel)
set_option maxRecDepth 20000 in
theorem gX8_knows_X8_isOutside : GoodIn wsX8_knows (va_wsS RX8 87 yX8_isOutside wsX8_isOutside) := goodIn_app (goodIn_of _ (by decide +kernel)) ggX8_knows_X8_isOutside
set_option maxRecDepth 20000 in
theorem ggX8_knows_X8_refuse : GoodIn wsX8_knows wsX8_refuse := goodIn_r _ [19, 20, 21, 41, 42, 43, 44, 45, 46, 47, 48, 49, 50, 51] (by decide +kernel) (by decide +kernel)
set_option maxRecDepth 20000 in
theorem gX8_knows_X8_refuse : GoodIn wsX8_knows (wsV RX8 79 RX8 yX8_refuse wsX8_refuse) := goodIn_app (goodIn_of _ (by decide +kernel)) ggX8_knows_X8_refuse
set_option maxRecDepth 20000 in
theorem ggX8_knows_X0_deepest : GoodIn wsX8_knows wsX0_deepest := goodIn_r _ [26, 27, 28, 29, 30, 31, 32, 33, 34, 35, 36, 37, 25, 38, 39, 40, 72, 73, 74, 75, 76, 77, 78, 79, 80, 81, 82] (by decide +kernel) (by decide +kernel)
set_option maxRecDepth 20000 in
theorem gX8_knows_X0_deepest : GoodIn wsX8_knows (wsV RX8 190 RX0 yX0_deepest wsX0_deepest) := goodIn_app (goodIn_of _ (by decide +kernel)) ggX8_knows_X0_deepest
theorem dX8_knows_0 : decode cX8_knows 0 = .ok (.aload_n 0, 1) := by decide +kernel
theorem dX8_knows_1 : decode cX8_knows 1 = .ok (.iload_n 1, 1) := by decide +kernel
theorem dX8_knows_2 : decode cX8_knows 2 = .ok (.invokevirtual 95, 3) := by decide +kernel
theorem dX8_knows_5 : decode cX8_knows 5 = .ok (.ifCond .eq 21, 3) := by decide +kernel
theorem dX8_knows_8 : decode cX8_knows 8 = .ok (.iload_n 2, 1) := by decide +kernel
theorem dX8_knows_9 : decode cX8_knows 9 = .ok (.invokestatic 178, 3) := by decide +kernel
theorem dX8_knows_12 : decode cX8_knows 12 = .ok (.ifCond .eq 14, 3) := by decide +kernel
theorem dX8_knows_15 : decode cX8_knows 15 = .ok (.iload_n 3, 1) := by decide +kernel
theorem dX8_knows_16 : decode cX8_knows 16 = .ok (.iconst 0, 1) := by decide +kernel
theorem dX8_knows_17 : decode cX8_knows 17 = .ok (.sipush 399, 3) := by decide +kernel
theorem dX8_knows_20 : decode cX8_knows 20 = .ok (.invokestatic 87, 3) := by decide +kernel
theorem dX8_knows_23 : decode cX8_knows 23 = .ok (.ifCond .eq 9, 3) := by decide +kernel
theorem dX8_knows_26 : decode cX8_knows 26 = .ok (.aload_n 0, 1) := by decide +kernel
theorem dX8_knows_27 : decode cX8_knows 27 = .ok (.iconst 1, 1) := by decide +kernel
theorem dX8_knows_28 : decode cX8_knows 28 = .ok (.invokevirtual 79, 3) := by decide +kernel
theorem dX8_knows_31 : decode cX8_knows 31 = .ok (.ireturn, 1) := by decide +kernel
theorem dX8_knows_32 : decode cX8_knows 32 = .ok (.aload_n 0, 1) := by decide +kernel
theorem dX8_knows_33 : decode cX8_knows 33 = .ok (.getfield 16, 3) := by decide +kernel
theorem dX8_knows_36 : decode cX8_knows 36 = .ok (.getfield 29, 3) := by decide +kernel
theorem dX8_knows_39 : decode cX8_knows 39 = .ok (.iload_n 1, 1) := by decide +kernel
theorem dX8_knows_40 : decode cX8_knows 40 = .ok (.iload_n 2, 1) := by decide +kernel
theorem dX8_knows_41 : decode cX8_knows 41 = .ok (.iload_n 3, 1) := by decide +kernel
theorem dX8_knows_42 : decode cX8_knows 42 = .ok (.invokevirtual 190, 3) := by decide +kernel
theorem dX8_knows_45 : decode cX8_knows 45 = .ok (.ireturn, 1) := by decide +kernel
set_option maxRecDepth 20000 in
theorem ggX8_feed_X8_isOutside : GoodIn wsX8_feed wsX8_isOutside := goodIn_r _ [7] (by decide +kernel) (by decide +kernel)
set_option maxRecDepth 20000 in
theorem gX8_feed_X8_isOutside : GoodIn wsX8_feed (va_wsS RX8 87 yX8_isOutside wsX8_isOutside) := goodIn_app (goodIn_of _ (by decide +kernel)) ggX8_feed_X8_isOutside
set_option maxRecDepth 20000 in
theorem ggX8_feed_X8_refuse : GoodIn wsX8_feed wsX8_refuse := goodIn_r _ [11, 12, 13, 14, 15, 16, 17, 18, 19, 20, 21, 22, 23, 24] (by decide +kernel) (by decide +kernel)
set_option maxRecDepth 20000 in
theorem gX8_feed_X8_refuse : GoodIn wsX8_feed (wsV RX8 79 RX8 yX8_refuse wsX8_refuse) := goodIn_app (goodIn_of _ (by decide +kernel)) ggX8_feed_X8_refuse
theorem dX8_feed_0 : decode cX8_feed 0 = .ok (.iload_n 3, 1) := by decide +kernel
theorem dX8_feed_1 : decode cX8_feed 1 = .ok (.iconst 1, 1) := by decide +kernel
theorem dX8_feed_2 : decode cX8_feed 2 = .ok (.bipush 8, 2) := by decide +kernel
theorem dX8_feed_4 : decode cX8_feed 4 = .ok (.invokestatic 87, 3) := by decide +kernel
theorem dX8_feed_7 : decode cX8_feed 7 = .ok (.ifCond .eq 9, 3) := by decide +kernel
theorem dX8_feed_10 : decode cX8_feed 10 = .ok (.aload_n 0, 1) := by decide +kernel
theorem dX8_feed_11 : decode cX8_feed 11 = .ok (.iconst 1, 1) := by decide +kernel
theorem dX8_feed_12 : decode cX8_feed 12 = .ok (.invokevirtual 79, 3) := by decide +kernel
theorem dX8_feed_15 : decode cX8_feed 15 = .ok (.ireturn, 1) := by decide +kernel
theorem dX8_feed_16 : decode cX8_feed 16 = .ok (.aload_n 0, 1) := by decide +kernel
theorem dX8_feed_17 : decode cX8_feed 17 = .ok (.getfield 16, 3) := by decide +kernel
theorem dX8_feed_20 : decode cX8_feed 20 = .ok (.getfield 193, 3) := by decide +kernel
theorem dX8_feed_23 : decode cX8_feed 23 = .ok (.iload_n 3, 1) := by decide +kernel
theorem dX8_feed_24 : decode cX8_feed 24 = .ok (.iadd, 1) := by decide +kernel
theorem dX8_feed_25 : decode cX8_feed 25 = .ok (.bipush 50, 2) := by decide +kernel
theorem dX8_feed_27 : decode cX8_feed 27 = .ok (.if_icmp .le 9, 3) := by decide +kernel
theorem dX8_feed_30 : decode cX8_feed 30 = .ok (.aload_n 0, 1) := by decide +kernel
theorem dX8_feed_31 : decode cX8_feed 31 = .ok (.iconst 4, 1) := by decide +kernel
theorem dX8_feed_32 : decode cX8_feed 32 = .ok (.invokevirtual 79, 3) := by decide +kernel
theorem dX8_feed_35 : decode cX8_feed 35 = .ok (.ireturn, 1) := by decide +kernel
theorem dX8_feed_36 : decode cX8_feed 36 = .ok (.iconst 0, 1) := by decide +kernel
theorem dX8_feed_37 : decode cX8_feed 37 = .ok (.istore 4, 2) := by decide +kernel
theorem dX8_feed_39 : decode cX8_feed 39 = .ok (.iload 4, 2) := by decide +kernel
theorem dX8_feed_41 : decode cX8_feed 41 = .ok (.iload_n 3, 1) := by decide +kernel
theorem dX8_feed_42 : decode cX8_feed 42 = .ok (.if_icmp .ge 39, 3) := by decide +kernel
theorem dX8_feed_45 : decode cX8_feed 45 = .ok (.aload_n 0, 1) := by decide +kernel
theorem dX8_feed_46 : decode cX8_feed 46 = .ok (.getfield 16, 3) := by decide +kernel
theorem dX8_feed_49 : decode cX8_feed 49 = .ok (.getfield 196, 3) := by decide +kernel
theorem dX8_feed_52 : decode cX8_feed 52 = .ok (.aload_n 0, 1) := by decide +kernel
theorem dX8_feed_53 : decode cX8_feed 53 = .ok (.getfield 16, 3) := by decide +kernel
theorem dX8_feed_56 : decode cX8_feed 56 = .ok (.getfield 193, 3) := by decide +kernel
theorem dX8_feed_59 : decode cX8_feed 59 = .ok (.iload 4, 2) := by decide +kernel
theorem dX8_feed_61 : decode cX8_feed 61 = .ok (.iadd, 1) := by decide +kernel
theorem dX8_feed_62 : decode cX8_feed 62 = .ok (.lload_n 1, 1) := by decide +kernel
theorem dX8_feed_63 : decode cX8_feed 63 = .ok (.bipush 8, 2) := by decide +kernel
theorem dX8_feed_65 : decode cX8_feed 65 = .ok (.iload 4, 2) := by decide +kernel
theorem dX8_feed_67 : decode cX8_feed 67 = .ok (.imul, 1) := by decide +kernel
theorem dX8_feed_68 : decode cX8_feed 68 = .ok (.lushr, 1) := by decide +kernel
theorem dX8_feed_69 : decode cX8_feed 69 = .ok (.l2i, 1) := by decide +kernel
theorem dX8_feed_70 : decode cX8_feed 70 = .ok (.sipush 255, 3) := by decide +kernel
theorem dX8_feed_73 : decode cX8_feed 73 = .ok (.iand, 1) := by decide +kernel
theorem dX8_feed_74 : decode cX8_feed 74 = .ok (.iastore, 1) := by decide +kernel
theorem dX8_feed_75 : decode cX8_feed 75 = .ok (.iinc 4 1, 3) := by decide +kernel
theorem dX8_feed_78 : decode cX8_feed 78 = .ok (.goto (-39), 3) := by decide +kernel
theorem dX8_feed_81 : decode cX8_feed 81 = .ok (.aload_n 0, 1) := by decide +kernel
theorem dX8_feed_82 : decode cX8_feed 82 = .ok (.getfield 16, 3) := by decide +kernel
theorem dX8_feed_85 : decode cX8_feed 85 = .ok (.dup, 1) := by decide +kernel
theorem dX8_feed_86 : decode cX8_feed 86 = .ok (.getfield 193, 3) := by decide +kernel
theorem dX8_feed_89 : decode cX8_feed 89 = .ok (.iload_n 3, 1) := by decide +kernel
theorem dX8_feed_90 : decode cX8_feed 90 = .ok (.iadd, 1) := by decide +kernel
theorem dX8_feed_91 : decode cX8_feed 91 = .ok (.putfield 193, 3) := by decide +kernel
theorem dX8_feed_94 : decode cX8_feed 94 = .ok (.aload_n 0, 1) := by decide +kernel
theorem dX8_feed_95 : decode cX8_feed 95 = .ok (.getfield 16, 3) := by decide +kernel
theorem dX8_feed_98 : decode cX8_feed 98 = .ok (.getfield 193, 3) := by decide +kernel
theorem dX8_feed_101 : decode cX8_feed 101 = .ok (.ireturn, 1) := by decide +kernel
set_option maxRecDepth 20000 in
theorem ggX8_text_X8_isOutside : GoodIn wsX8_text wsX8_isOutside := goodIn_r _ [11] (by decide +kernel) (by decide +kernel)
set_option maxRecDepth 20000 in
theorem gX8_text_X8_isOutside : GoodIn wsX8_text (va_wsS RX8 87 yX8_isOutside wsX8_isOutside) := goodIn_app (goodIn_of _ (by decide +kernel)) ggX8_text_X8_isOutside
set_option maxRecDepth 20000 in
theorem ggX8_text_X8_refuse : GoodIn wsX8_text wsX8_refuse := goodIn_r _ [15, 16, 17, 163, 164, 165, 166, 167, 168, 169, 170, 171, 172, 173] (by decide +kernel) (by decide +kernel)
set_option maxRecDepth 20000 in
theorem gX8_text_X8_refuse : GoodIn wsX8_text (wsV RX8 79 RX8 yX8_refuse wsX8_refuse) := goodIn_app (goodIn_of _ (by decide +kernel)) ggX8_text_X8_refuse
set_option maxRecDepth 20000 in
theorem ggX8_text_X1_read : GoodIn wsX8_text wsX1_read := goodIn_r _ [22, 23, 24, 25, 26, 27, 28, 29, 30, 21, 31, 32, 33, 34, 35, 36, 37, 38, 39, 40, 41, 42, 43, 44, 45, 46, 47, 48, 49, 50, 51, 52, 53, 54, 55, 56, 57, 58, 59, 60, 61, 62, 63, 64, 65, 66, 67, 68, 69, 70, 71, 72, 73, 74, 75, 76, 77, 78, 79, 80, 81, 82, 83, 84, 85, 86, 87, 88, 89, 90, 91, 92, 93, 94, 95, 96, 97, 98, 99, 100, 101, 102, 103, 104, 105, 106, 107, 108, 109, 110, 111, 112, 113, 114, 115, 116, 117, 118, 119, 120, 121, 122, 123, 124, 125, 126, 127, 128, 129, 130, 131, 132, 133, 134, 135, 136, 137, 138, 139, 140, 141, 142, 143, 144, 145, 146, 147, 148, 149, 150, 151, 191, 192, 193, 194, 195, 196] (by decide +kernel) (by decide +kernel)
set_option maxRecDepth 20000 in
theorem gX8_text_X1_read : GoodIn wsX8_text (wsV RX8 203 RX1 yX1_read wsX1_read) := goodIn_app (goodIn_of _ (by decide +kernel)) ggX8_text_X1_read
set_option maxRecDepth 20000 in
theorem ggX8_text_X5_become : GoodIn wsX8_text wsX5_become := goodIn_r _ [156, 157, 158, 159, 160, 161, 162, 197, 198] (by decide +kernel) (by decide +kernel)
set_option maxRecDepth 20000 in
theorem gX8_text_X5_become : GoodIn wsX8_text (wsV RX8 217 RX5 yX5_become wsX5_become) := goodIn_app (goodIn_of _ (by decide +kernel)) ggX8_text_X5_become
theorem dX8_text_0 : decode cX8_text 0 = .ok (.iload_n 1, 1) := by decide +kernel
theorem dX8_text_1 : decode cX8_text 1 = .ok (.iconst 0, 1) := by decide +kernel
theorem dX8_text_2 : decode cX8_text 2 = .ok (.bipush 7, 2) := by decide +kernel
theorem dX8_text_4 : decode cX8_text 4 = .ok (.invokestatic 87, 3) := by decide +kernel
theorem dX8_text_7 : decode cX8_text 7 = .ok (.ifCond .eq 9, 3) := by decide +kernel
theorem dX8_text_10 : decode cX8_text 10 = .ok (.aload_n 0, 1) := by decide +kernel
theorem dX8_text_11 : decode cX8_text 11 = .ok (.iconst 1, 1) := by decide +kernel
theorem dX8_text_12 : decode cX8_text 12 = .ok (.invokevirtual 79, 3) := by decide +kernel
theorem dX8_text_15 : decode cX8_text 15 = .ok (.ireturn, 1) := by decide +kernel
theorem dX8_text_16 : decode cX8_text 16 = .ok (.aload_n 0, 1) := by decide +kernel
theorem dX8_text_17 : decode cX8_text 17 = .ok (.getfield 46, 3) := by decide +kernel
theorem dX8_text_20 : decode cX8_text 20 = .ok (.aload_n 0, 1) := by decide +kernel
theorem dX8_text_21 : decode cX8_text 21 = .ok (.getfield 16, 3) := by decide +kernel
theorem dX8_text_24 : decode cX8_text 24 = .ok (.getfield 196, 3) := by decide +kernel
theorem dX8_text_27 : decode cX8_text 27 = .ok (.aload_n 0, 1) := by decide +kernel
theorem dX8_text_28 : decode cX8_text 28 = .ok (.getfield 16, 3) := by decide +kernel
theorem dX8_text_31 : decode cX8_text 31 = .ok (.getfield 193, 3) := by decide +kernel
theorem dX8_text_34 : decode cX8_text 34 = .ok (.iload_n 1, 1) := by decide +kernel
theorem dX8_text_35 : decode cX8_text 35 = .ok (.bipush 6, 2) := by decide +kernel
theorem dX8_text_37 : decode cX8_text 37 = .ok (.if_icmp .ge 8, 3) := by decide +kernel
theorem dX8_text_40 : decode cX8_text 40 = .ok (.ldc 199, 2) := by decide +kernel
theorem dX8_text_42 : decode cX8_text 42 = .ok (.goto 5, 3) := by decide +kernel
theorem dX8_text_45 : decode cX8_text 45 = .ok (.ldc 201, 2) := by decide +kernel
theorem dX8_text_47 : decode cX8_text 47 = .ok (.invokevirtual 203, 3) := by decide +kernel
theorem dX8_text_50 : decode cX8_text 50 = .ok (.istore_n 2, 1) := by decide +kernel
theorem dX8_text_51 : decode cX8_text 51 = .ok (.aload_n 0, 1) := by decide +kernel
theorem dX8_text_52 : decode cX8_text 52 = .ok (.getfield 16, 3) := by decide +kernel
theorem dX8_text_55 : decode cX8_text 55 = .ok (.iconst 0, 1) := by decide +kernel
theorem dX8_text_56 : decode cX8_text 56 = .ok (.putfield 193, 3) := by decide +kernel
theorem dX8_text_59 : decode cX8_text 59 = .ok (.iload_n 2, 1) := by decide +kernel
theorem dX8_text_60 : decode cX8_text 60 = .ok (.ifCond .lt 8, 3) := by decide +kernel
theorem dX8_text_63 : decode cX8_text 63 = .ok (.bipush (-10), 2) := by decide +kernel
theorem dX8_text_65 : decode cX8_text 65 = .ok (.iload_n 2, 1) := by decide +kernel
theorem dX8_text_66 : decode cX8_text 66 = .ok (.isub, 1) := by decide +kernel
theorem dX8_text_67 : decode cX8_text 67 = .ok (.ireturn, 1) := by decide +kernel
theorem dX8_text_68 : decode cX8_text 68 = .ok (.aload_n 0, 1) := by decide +kernel
theorem dX8_text_69 : decode cX8_text 69 = .ok (.getfield 16, 3) := by decide +kernel
theorem dX8_text_72 : decode cX8_text 72 = .ok (.getfield 207, 3) := by decide +kernel
theorem dX8_text_75 : decode cX8_text 75 = .ok (.iload_n 1, 1) := by decide +kernel
theorem dX8_text_76 : decode cX8_text 76 = .ok (.aaload, 1) := by decide +kernel
theorem dX8_text_77 : decode cX8_text 77 = .ok (.aload_n 0, 1) := by decide +kernel
theorem dX8_text_78 : decode cX8_text 78 = .ok (.getfield 46, 3) := by decide +kernel
theorem dX8_text_81 : decode cX8_text 81 = .ok (.getfield 211, 3) := by decide +kernel
theorem dX8_text_84 : decode cX8_text 84 = .ok (.aload_n 0, 1) := by decide +kernel
theorem dX8_text_85 : decode cX8_text 85 = .ok (.getfield 46, 3) := by decide +kernel
theorem dX8_text_88 : decode cX8_text 88 = .ok (.getfield 214, 3) := by decide +kernel
theorem dX8_text_91 : decode cX8_text 91 = .ok (.invokevirtual 217, 3) := by decide +kernel
theorem dX8_text_94 : decode cX8_text 94 = .ok (.iconst 1, 1) := by decide +kernel
theorem dX8_text_95 : decode cX8_text 95 = .ok (.ireturn, 1) := by decide +kernel
set_option maxRecDepth 20000 in
theorem ggX8_law_X8_isOutside : GoodIn wsX8_law wsX8_isOutside := goodIn_r _ [8] (by decide +kernel) (by decide +kernel)
set_option maxRecDepth 20000 in
theorem gX8_law_X8_isOutside : GoodIn wsX8_law (va_wsS RX8 87 yX8_isOutside wsX8_isOutside) := goodIn_app (goodIn_of _ (by decide +kernel)) ggX8_law_X8_isOutside
set_option maxRecDepth 20000 in
theorem ggX8_law_X8_refuse : GoodIn wsX8_law wsX8_refuse := goodIn_r _ [12, 13, 14, 32, 33, 34, 35, 36, 37, 38, 39, 40, 41, 42] (by decide +kernel) (by decide +kernel)
set_option maxRecDepth 20000 in
theorem gX8_law_X8_refuse : GoodIn wsX8_law (wsV RX8 79 RX8 yX8_refuse wsX8_refuse) := goodIn_app (goodIn_of _ (by decide +kernel)) ggX8_law_X8_refuse
set_option maxRecDepth 20000 in
theorem ggX8_law_X8_nameAll : GoodIn wsX8_law wsX8_nameAll := goodIn_r _ [18, 3, 32, 33, 34, 35, 36, 37, 38, 39, 40, 41, 42] (by decide +kernel) (by decide +kernel)
set_option maxRecDepth 20000 in
theorem gX8_law_X8_nameAll : GoodIn wsX8_law (wsV RX8 223 RX8 yX8_nameAll wsX8_nameAll) := goodIn_app (goodIn_of _ (by decide +kernel)) ggX8_law_X8_nameAll
set_option maxRecDepth 20000 in
theorem ggX8_law_X5_reckon : GoodIn wsX8_law wsX5_reckon := goodIn_r _ [23, 24, 25, 26, 27, 22, 28, 29, 30, 31, 60, 61] (by decide +kernel) (by decide +kernel)
set_option maxRecDepth 20000 in
theorem gX8_law_X5_reckon : GoodIn wsX8_law (wsV RX8 227 RX5 yX5_reckon wsX5_reckon) := goodIn_app (goodIn_of _ (by decide +kernel)) ggX8_law_X5_reckon
theorem dX8_law_0 : decode cX8_law 0 = .ok (.iload_n 1, 1) := by decide +kernel
theorem dX8_law_1 : decode cX8_law 1 = .ok (.iconst 0, 1) := by decide +kernel
theorem dX8_law_2 : decode cX8_law 2 = .ok (.bipush 7, 2) := by decide +kernel
theorem dX8_law_4 : decode cX8_law 4 = .ok (.invokestatic 87, 3) := by decide +kernel
theorem dX8_law_7 : decode cX8_law 7 = .ok (.ifCond .eq 9, 3) := by decide +kernel
theorem dX8_law_10 : decode cX8_law 10 = .ok (.aload_n 0, 1) := by decide +kernel
theorem dX8_law_11 : decode cX8_law 11 = .ok (.iconst 1, 1) := by decide +kernel
theorem dX8_law_12 : decode cX8_law 12 = .ok (.invokevirtual 79, 3) := by decide +kernel
theorem dX8_law_15 : decode cX8_law 15 = .ok (.ireturn, 1) := by decide +kernel
theorem dX8_law_16 : decode cX8_law 16 = .ok (.aload_n 0, 1) := by decide +kernel
theorem dX8_law_17 : decode cX8_law 17 = .ok (.iload_n 2, 1) := by decide +kernel
theorem dX8_law_18 : decode cX8_law 18 = .ok (.iload_n 3, 1) := by decide +kernel
theorem dX8_law_19 : decode cX8_law 19 = .ok (.iconst 0, 1) := by decide +kernel
theorem dX8_law_20 : decode cX8_law 20 = .ok (.iconst 0, 1) := by decide +kernel
theorem dX8_law_21 : decode cX8_law 21 = .ok (.iconst 0, 1) := by decide +kernel
theorem dX8_law_22 : decode cX8_law 22 = .ok (.invokevirtual 223, 3) := by decide +kernel
theorem dX8_law_25 : decode cX8_law 25 = .ok (.aload_n 0, 1) := by decide +kernel
theorem dX8_law_26 : decode cX8_law 26 = .ok (.getfield 16, 3) := by decide +kernel
theorem dX8_law_29 : decode cX8_law 29 = .ok (.getfield 207, 3) := by decide +kernel
theorem dX8_law_32 : decode cX8_law 32 = .ok (.iload_n 1, 1) := by decide +kernel
theorem dX8_law_33 : decode cX8_law 33 = .ok (.aaload, 1) := by decide +kernel
theorem dX8_law_34 : decode cX8_law 34 = .ok (.aload_n 0, 1) := by decide +kernel
theorem dX8_law_35 : decode cX8_law 35 = .ok (.getfield 50, 3) := by decide +kernel
theorem dX8_law_38 : decode cX8_law 38 = .ok (.aload_n 0, 1) := by decide +kernel
theorem dX8_law_39 : decode cX8_law 39 = .ok (.getfield 53, 3) := by decide +kernel
theorem dX8_law_42 : decode cX8_law 42 = .ok (.invokevirtual 227, 3) := by decide +kernel
theorem dX8_law_45 : decode cX8_law 45 = .ok (.ireturn, 1) := by decide +kernel
set_option maxRecDepth 20000 in
theorem ggX8_aim_X8_isPlace : GoodIn wsX8_aim wsX8_isPlace := goodIn_r _ [7, 1, 8, 9, 10, 11, 6, 12, 26, 27, 28, 29, 30, 31, 32, 33, 34, 35, 36, 37, 38, 39, 40, 41, 42, 43, 44, 45, 46, 47, 48, 49, 50, 51, 52, 53, 54, 55, 56] (by decide +kernel) (by decide +kernel)
set_option maxRecDepth 20000 in
theorem gX8_aim_X8_isPlace : GoodIn wsX8_aim (wsV RX8 95 RX8 yX8_isPlace wsX8_isPlace) := goodIn_app (goodIn_of _ (by decide +kernel)) ggX8_aim_X8_isPlace
set_option maxRecDepth 20000 in
theorem ggX8_aim_X8_refuse : GoodIn wsX8_aim wsX8_refuse := goodIn_r _ [16, 17, 18, 26, 27, 28, 29, 30, 31, 32, 33, 34, 35, 36] (by decide +kernel) (by decide +kernel)
set_option maxRecDepth 20000 in
theorem gX8_aim_X8_refuse : GoodIn wsX8_aim (wsV RX8 79 RX8 yX8_refuse wsX8_refuse) := goodIn_app (goodIn_of _ (by decide +kernel)) ggX8_aim_X8_refuse
set_option maxRecDepth 20000 in
theorem ggX8_aim_X8_areTwo : GoodIn wsX8_aim wsX8_areTwo := goodIn_r _ [22, 3, 4, 5, 6, 7, 1, 8, 9, 10, 11, 12, 26, 27, 28, 29, 30, 31, 32, 33, 34, 35, 36, 37, 38, 39, 40, 41, 42, 43, 44, 45, 46, 47, 48, 49, 50, 51, 52, 53, 54, 55, 56] (by decide +kernel) (by decide +kernel)
set_option maxRecDepth 20000 in
theorem gX8_aim_X8_areTwo : GoodIn wsX8_aim (wsV RX8 83 RX8 yX8_areTwo wsX8_areTwo) := goodIn_app (goodIn_of _ (by decide +kernel)) ggX8_aim_X8_areTwo
set_option maxRecDepth 20000 in
theorem ggX8_aim_X8_isPact : GoodIn wsX8_aim wsX8_isPact := goodIn_r _ [25, 10, 11, 6, 12] (by decide +kernel) (by decide +kernel)
set_option maxRecDepth 20000 in
theorem gX8_aim_X8_isPact : GoodIn wsX8_aim (va_wsS RX8 178 yX8_isPact wsX8_isPact) := goodIn_app (goodIn_of _ (by decide +kernel)) ggX8_aim_X8_isPact
theorem dX8_aim_0 : decode cX8_aim 0 = .ok (.aload_n 0, 1) := by decide +kernel
theorem dX8_aim_1 : decode cX8_aim 1 = .ok (.iload_n 1, 1) := by decide +kernel
theorem dX8_aim_2 : decode cX8_aim 2 = .ok (.invokevirtual 95, 3) := by decide +kernel
theorem dX8_aim_5 : decode cX8_aim 5 = .ok (.ifCond .eq 8, 3) := by decide +kernel
theorem dX8_aim_8 : decode cX8_aim 8 = .ok (.iload_n 2, 1) := by decide +kernel
theorem dX8_aim_9 : decode cX8_aim 9 = .ok (.iconst (-1), 1) := by decide +kernel
theorem dX8_aim_10 : decode cX8_aim 10 = .ok (.if_icmp .ge 9, 3) := by decide +kernel
theorem dX8_aim_13 : decode cX8_aim 13 = .ok (.aload_n 0, 1) := by decide +kernel
theorem dX8_aim_14 : decode cX8_aim 14 = .ok (.iconst 1, 1) := by decide +kernel
theorem dX8_aim_15 : decode cX8_aim 15 = .ok (.invokevirtual 79, 3) := by decide +kernel
theorem dX8_aim_18 : decode cX8_aim 18 = .ok (.ireturn, 1) := by decide +kernel
theorem dX8_aim_19 : decode cX8_aim 19 = .ok (.iload_n 2, 1) := by decide +kernel
theorem dX8_aim_20 : decode cX8_aim 20 = .ok (.ifCond .lt 31, 3) := by decide +kernel
theorem dX8_aim_23 : decode cX8_aim 23 = .ok (.aload_n 0, 1) := by decide +kernel
theorem dX8_aim_24 : decode cX8_aim 24 = .ok (.iload_n 1, 1) := by decide +kernel
theorem dX8_aim_25 : decode cX8_aim 25 = .ok (.iload_n 2, 1) := by decide +kernel
theorem dX8_aim_26 : decode cX8_aim 26 = .ok (.bipush 10, 2) := by decide +kernel
theorem dX8_aim_28 : decode cX8_aim 28 = .ok (.idiv, 1) := by decide +kernel
theorem dX8_aim_29 : decode cX8_aim 29 = .ok (.invokevirtual 83, 3) := by decide +kernel
theorem dX8_aim_32 : decode cX8_aim 32 = .ok (.ifCond .eq 13, 3) := by decide +kernel
theorem dX8_aim_35 : decode cX8_aim 35 = .ok (.iload_n 2, 1) := by decide +kernel
theorem dX8_aim_36 : decode cX8_aim 36 = .ok (.bipush 10, 2) := by decide +kernel
theorem dX8_aim_38 : decode cX8_aim 38 = .ok (.irem, 1) := by decide +kernel
theorem dX8_aim_39 : decode cX8_aim 39 = .ok (.invokestatic 178, 3) := by decide +kernel
theorem dX8_aim_42 : decode cX8_aim 42 = .ok (.ifCond .ne 9, 3) := by decide +kernel
theorem dX8_aim_45 : decode cX8_aim 45 = .ok (.aload_n 0, 1) := by decide +kernel
theorem dX8_aim_46 : decode cX8_aim 46 = .ok (.iconst 1, 1) := by decide +kernel
theorem dX8_aim_47 : decode cX8_aim 47 = .ok (.invokevirtual 79, 3) := by decide +kernel
theorem dX8_aim_50 : decode cX8_aim 50 = .ok (.ireturn, 1) := by decide +kernel
theorem dX8_aim_51 : decode cX8_aim 51 = .ok (.aload_n 0, 1) := by decide +kernel
theorem dX8_aim_52 : decode cX8_aim 52 = .ok (.getfield 16, 3) := by decide +kernel
theorem dX8_aim_55 : decode cX8_aim 55 = .ok (.getfield 231, 3) := by decide +kernel
theorem dX8_aim_58 : decode cX8_aim 58 = .ok (.iload_n 1, 1) := by decide +kernel
theorem dX8_aim_59 : decode cX8_aim 59 = .ok (.iload_n 2, 1) := by decide +kernel
theorem dX8_aim_60 : decode cX8_aim 60 = .ok (.iastore, 1) := by decide +kernel
theorem dX8_aim_61 : decode cX8_aim 61 = .ok (.iconst 1, 1) := by decide +kernel
theorem dX8_aim_62 : decode cX8_aim 62 = .ok (.ireturn, 1) := by decide +kernel
set_option maxRecDepth 20000 in
theorem ggX8_live_X8_isOutside : GoodIn wsX8_live wsX8_isOutside := goodIn_r _ [8] (by decide +kernel) (by decide +kernel)
set_option maxRecDepth 20000 in
theorem gX8_live_X8_isOutside : GoodIn wsX8_live (va_wsS RX8 87 yX8_isOutside wsX8_isOutside) := goodIn_app (goodIn_of _ (by decide +kernel)) ggX8_live_X8_isOutside
set_option maxRecDepth 20000 in
theorem ggX8_live_X8_refuse : GoodIn wsX8_live wsX8_refuse := goodIn_r _ [12, 13, 14, 206, 207, 208, 209, 210, 211, 212, 213, 214, 215, 216] (by decide +kernel) (by decide +kernel)
set_option maxRecDepth 20000 in
theorem gX8_live_X8_refuse : GoodIn wsX8_live (wsV RX8 79 RX8 yX8_refuse wsX8_refuse) := goodIn_app (goodIn_of _ (by decide +kernel)) ggX8_live_X8_refuse
set_option maxRecDepth 20000 in
theorem ggX8_live_X8_followOrder : GoodIn wsX8_live wsX8_followOrder := goodIn_r _ [18, 1, 19, 20, 21, 2, 22, 23, 24, 25, 26, 27, 28, 29, 30, 31, 32, 33, 34, 35, 36, 37, 38, 39, 40, 41, 42, 43, 44, 45, 46, 47, 48, 49, 50, 51, 52, 53, 54, 55, 56, 57, 58, 59, 60, 61, 62, 63, 64, 65, 66, 67, 68, 69, 70, 71, 72, 73, 74, 75, 76, 77, 78, 79, 80, 81, 82, 83, 84, 85, 86, 87, 88, 89, 90, 91, 92, 93, 94, 95, 96, 97, 98, 99, 100, 101, 102, 103, 104, 105, 106, 107, 108, 109, 110, 111, 112, 113, 114, 115, 116, 117, 118, 119, 120, 121, 122, 123, 124, 125, 126, 127, 128, 129, 130, 131, 132, 133, 134, 135, 7, 136, 137, 138, 139, 140, 141, 142, 143, 144, 145, 146, 147, 148, 149, 150, 151, 152, 153, 3, 154, 5, 6, 8, 155, 156, 157, 158, 159, 160, 161, 162, 163, 164, 165, 166, 4, 167, 168, 169, 170, 171, 172, 173, 174, 175, 176, 177, 178, 179, 180, 181, 182, 183, 184, 185, 186, 187, 188, 189, 190, 191, 192, 193, 194, 195, 196, 197, 198, 199, 200, 201, 202, 203, 204, 205, 206, 207, 208, 209, 210, 211, 212, 213, 214, 215, 216, 217, 218, 219, 220, 221, 222, 223, 224, 225, 226, 227, 228, 229, 230, 231, 232, 233, 237, 238, 239, 240, 241, 242, 243, 244, 245, 246, 247, 248, 249, 250, 251, 252, 253, 254, 255, 256, 257, 234, 235, 236] (by decide +kernel) (by decide +kernel)
set_option maxRecDepth 20000 in
theorem gX8_live_X8_followOrder : GoodIn wsX8_live (wsV RX8 234 RX8 yX8_followOrder wsX8_followOrder) := goodIn_app (goodIn_of _ (by decide +kernel)) ggX8_live_X8_followOrder
theorem dX8_live_0 : decode cX8_live 0 = .ok (.iload_n 1, 1) := by decide +kernel
theorem dX8_live_1 : decode cX8_live 1 = .ok (.iconst 1, 1) := by decide +kernel
theorem dX8_live_2 : decode cX8_live 2 = .ok (.bipush 50, 2) := by decide +kernel
theorem dX8_live_4 : decode cX8_live 4 = .ok (.invokestatic 87, 3) := by decide +kernel
theorem dX8_live_7 : decode cX8_live 7 = .ok (.ifCond .eq 9, 3) := by decide +kernel
theorem dX8_live_10 : decode cX8_live 10 = .ok (.aload_n 0, 1) := by decide +kernel
theorem dX8_live_11 : decode cX8_live 11 = .ok (.iconst 1, 1) := by decide +kernel
theorem dX8_live_12 : decode cX8_live 12 = .ok (.invokevirtual 79, 3) := by decide +kernel
theorem dX8_live_15 : decode cX8_live 15 = .ok (.ireturn, 1) := by decide +kernel
theorem dX8_live_16 : decode cX8_live 16 = .ok (.aload_n 0, 1) := by decide +kernel
theorem dX8_live_17 : decode cX8_live 17 = .ok (.getfield 16, 3) := by decide +kernel
theorem dX8_live_20 : decode cX8_live 20 = .ok (.getfield 156, 3) := by decide +kernel
theorem dX8_live_23 : decode cX8_live 23 = .ok (.iload_n 1, 1) := by decide +kernel
theorem dX8_live_24 : decode cX8_live 24 = .ok (.iadd, 1) := by decide +kernel
theorem dX8_live_25 : decode cX8_live 25 = .ok (.sipush 399, 3) := by decide +kernel
theorem dX8_live_28 : decode cX8_live 28 = .ok (.if_icmp .le 9, 3) := by decide +kernel
theorem dX8_live_31 : decode cX8_live 31 = .ok (.aload_n 0, 1) := by decide +kernel
theorem dX8_live_32 : decode cX8_live 32 = .ok (.iconst 3, 1) := by decide +kernel
theorem dX8_live_33 : decode cX8_live 33 = .ok (.invokevirtual 79, 3) := by decide +kernel
theorem dX8_live_36 : decode cX8_live 36 = .ok (.ireturn, 1) := by decide +kernel
theorem dX8_live_37 : decode cX8_live 37 = .ok (.iconst 0, 1) := by decide +kernel
theorem dX8_live_38 : decode cX8_live 38 = .ok (.istore_n 2, 1) := by decide +kernel
theorem dX8_live_39 : decode cX8_live 39 = .ok (.iload_n 2, 1) := by decide +kernel
theorem dX8_live_40 : decode cX8_live 40 = .ok (.iload_n 1, 1) := by decide +kernel
theorem dX8_live_41 : decode cX8_live 41 = .ok (.if_icmp .ge 49, 3) := by decide +kernel
theorem dX8_live_44 : decode cX8_live 44 = .ok (.iconst 0, 1) := by decide +kernel
theorem dX8_live_45 : decode cX8_live 45 = .ok (.istore_n 3, 1) := by decide +kernel
theorem dX8_live_46 : decode cX8_live 46 = .ok (.iload_n 3, 1) := by decide +kernel
theorem dX8_live_47 : decode cX8_live 47 = .ok (.aload_n 0, 1) := by decide +kernel
theorem dX8_live_48 : decode cX8_live 48 = .ok (.getfield 16, 3) := by decide +kernel
theorem dX8_live_51 : decode cX8_live 51 = .ok (.getfield 70, 3) := by decide +kernel
theorem dX8_live_54 : decode cX8_live 54 = .ok (.getfield 74, 3) := by decide +kernel
theorem dX8_live_57 : decode cX8_live 57 = .ok (.if_icmp .ge 14, 3) := by decide +kernel
theorem dX8_live_60 : decode cX8_live 60 = .ok (.aload_n 0, 1) := by decide +kernel
theorem dX8_live_61 : decode cX8_live 61 = .ok (.iload_n 3, 1) := by decide +kernel
theorem dX8_live_62 : decode cX8_live 62 = .ok (.invokevirtual 234, 3) := by decide +kernel
theorem dX8_live_65 : decode cX8_live 65 = .ok (.iinc 3 1, 3) := by decide +kernel
theorem dX8_live_68 : decode cX8_live 68 = .ok (.goto (-22), 3) := by decide +kernel
theorem dX8_live_71 : decode cX8_live 71 = .ok (.aload_n 0, 1) := by decide +kernel
theorem dX8_live_72 : decode cX8_live 72 = .ok (.getfield 16, 3) := by decide +kernel
theorem dX8_live_75 : decode cX8_live 75 = .ok (.dup, 1) := by decide +kernel
theorem dX8_live_76 : decode cX8_live 76 = .ok (.getfield 156, 3) := by decide +kernel
theorem dX8_live_79 : decode cX8_live 79 = .ok (.iconst 1, 1) := by decide +kernel
theorem dX8_live_80 : decode cX8_live 80 = .ok (.iadd, 1) := by decide +kernel
theorem dX8_live_81 : decode cX8_live 81 = .ok (.putfield 156, 3) := by decide +kernel
theorem dX8_live_84 : decode cX8_live 84 = .ok (.iinc 2 1, 3) := by decide +kernel
theorem dX8_live_87 : decode cX8_live 87 = .ok (.goto (-48), 3) := by decide +kernel
theorem dX8_live_90 : decode cX8_live 90 = .ok (.aload_n 0, 1) := by decide +kernel
theorem dX8_live_91 : decode cX8_live 91 = .ok (.getfield 16, 3) := by decide +kernel
theorem dX8_live_94 : decode cX8_live 94 = .ok (.getfield 156, 3) := by decide +kernel
theorem dX8_live_97 : decode cX8_live 97 = .ok (.ireturn, 1) := by decide +kernel
set_option maxRecDepth 20000 in
theorem ggX8_soon_X8_isPair : GoodIn wsX8_soon wsX8_isPair := goodIn_r _ [8, 9, 10, 11, 7, 12, 13, 14, 15, 16, 1, 2, 17, 18, 19, 20, 34, 35, 36, 37, 38, 39, 40, 41, 42, 43, 44, 45, 46, 47, 48, 49, 50, 51, 52, 53, 54, 55, 56, 57, 58, 59, 60, 61, 62, 63, 64] (by decide +kernel) (by decide +kernel)
set_option maxRecDepth 20000 in
theorem gX8_soon_X8_isPair : GoodIn wsX8_soon (wsV RX8 237 RX8 yX8_isPair wsX8_isPair) := goodIn_app (goodIn_of _ (by decide +kernel)) ggX8_soon_X8_isPair
set_option maxRecDepth 20000 in
theorem ggX8_soon_X8_isOutside : GoodIn wsX8_soon wsX8_isOutside := goodIn_r _ [20] (by decide +kernel) (by decide +kernel)
set_option maxRecDepth 20000 in
theorem gX8_soon_X8_isOutside : GoodIn wsX8_soon (va_wsS RX8 87 yX8_isOutside wsX8_isOutside) := goodIn_app (goodIn_of _ (by decide +kernel)) ggX8_soon_X8_isOutside
set_option maxRecDepth 20000 in
theorem ggX8_soon_X8_refuse : GoodIn wsX8_soon wsX8_refuse := goodIn_r _ [24, 25, 26, 34, 35, 36, 37, 38, 39, 40, 41, 42, 43, 44] (by decide +kernel) (by decide +kernel)
set_option maxRecDepth 20000 in
theorem gX8_soon_X8_refuse : GoodIn wsX8_soon (wsV RX8 79 RX8 yX8_refuse wsX8_refuse) := goodIn_app (goodIn_of _ (by decide +kernel)) ggX8_soon_X8_refuse
set_option maxRecDepth 20000 in
theorem ggX8_soon_X2_years : GoodIn wsX8_soon wsX2_years := goodIn_r _ [31, 32, 33, 62, 63, 64] (by decide +kernel) (by decide +kernel)
set_option maxRecDepth 20000 in
theorem gX8_soon_X2_years : GoodIn wsX8_soon (wsV RX8 99 RX2 yX2_years wsX2_years) := goodIn_app (goodIn_of _ (by decide +kernel)) ggX8_soon_X2_years
theorem dX8_soon_0 : decode cX8_soon 0 = .ok (.aload_n 0, 1) := by decide +kernel
theorem dX8_soon_1 : decode cX8_soon 1 = .ok (.iload_n 1, 1) := by decide +kernel
theorem dX8_soon_2 : decode cX8_soon 2 = .ok (.invokevirtual 237, 3) := by decide +kernel
theorem dX8_soon_5 : decode cX8_soon 5 = .ok (.ifCond .eq 23, 3) := by decide +kernel
theorem dX8_soon_8 : decode cX8_soon 8 = .ok (.iload_n 2, 1) := by decide +kernel
theorem dX8_soon_9 : decode cX8_soon 9 = .ok (.iconst 1, 1) := by decide +kernel
theorem dX8_soon_10 : decode cX8_soon 10 = .ok (.bipush 9, 2) := by decide +kernel
theorem dX8_soon_12 : decode cX8_soon 12 = .ok (.invokestatic 87, 3) := by decide +kernel
theorem dX8_soon_15 : decode cX8_soon 15 = .ok (.ifCond .ne 13, 3) := by decide +kernel
theorem dX8_soon_18 : decode cX8_soon 18 = .ok (.iload_n 3, 1) := by decide +kernel
theorem dX8_soon_19 : decode cX8_soon 19 = .ok (.iconst 0, 1) := by decide +kernel
theorem dX8_soon_20 : decode cX8_soon 20 = .ok (.bipush 9, 2) := by decide +kernel
theorem dX8_soon_22 : decode cX8_soon 22 = .ok (.invokestatic 87, 3) := by decide +kernel
theorem dX8_soon_25 : decode cX8_soon 25 = .ok (.ifCond .eq 9, 3) := by decide +kernel
theorem dX8_soon_28 : decode cX8_soon 28 = .ok (.aload_n 0, 1) := by decide +kernel
theorem dX8_soon_29 : decode cX8_soon 29 = .ok (.iconst 1, 1) := by decide +kernel
theorem dX8_soon_30 : decode cX8_soon 30 = .ok (.invokevirtual 79, 3) := by decide +kernel
theorem dX8_soon_33 : decode cX8_soon 33 = .ok (.ireturn, 1) := by decide +kernel
theorem dX8_soon_34 : decode cX8_soon 34 = .ok (.aload_n 0, 1) := by decide +kernel
theorem dX8_soon_35 : decode cX8_soon 35 = .ok (.getfield 16, 3) := by decide +kernel
theorem dX8_soon_38 : decode cX8_soon 38 = .ok (.getfield 70, 3) := by decide +kernel
theorem dX8_soon_41 : decode cX8_soon 41 = .ok (.iload_n 1, 1) := by decide +kernel
theorem dX8_soon_42 : decode cX8_soon 42 = .ok (.bipush 10, 2) := by decide +kernel
theorem dX8_soon_44 : decode cX8_soon 44 = .ok (.idiv, 1) := by decide +kernel
theorem dX8_soon_45 : decode cX8_soon 45 = .ok (.iload_n 1, 1) := by decide +kernel
theorem dX8_soon_46 : decode cX8_soon 46 = .ok (.bipush 10, 2) := by decide +kernel
theorem dX8_soon_48 : decode cX8_soon 48 = .ok (.irem, 1) := by decide +kernel
theorem dX8_soon_49 : decode cX8_soon 49 = .ok (.invokevirtual 99, 3) := by decide +kernel
theorem dX8_soon_52 : decode cX8_soon 52 = .ok (.istore 4, 2) := by decide +kernel
theorem dX8_soon_54 : decode cX8_soon 54 = .ok (.aload_n 0, 1) := by decide +kernel
theorem dX8_soon_55 : decode cX8_soon 55 = .ok (.getfield 16, 3) := by decide +kernel
theorem dX8_soon_58 : decode cX8_soon 58 = .ok (.getfield 156, 3) := by decide +kernel
theorem dX8_soon_61 : decode cX8_soon 61 = .ok (.iload_n 2, 1) := by decide +kernel
theorem dX8_soon_62 : decode cX8_soon 62 = .ok (.iload 4, 2) := by decide +kernel
theorem dX8_soon_64 : decode cX8_soon 64 = .ok (.imul, 1) := by decide +kernel
theorem dX8_soon_65 : decode cX8_soon 65 = .ok (.iadd, 1) := by decide +kernel
theorem dX8_soon_66 : decode cX8_soon 66 = .ok (.iload_n 3, 1) := by decide +kernel
theorem dX8_soon_67 : decode cX8_soon 67 = .ok (.iadd, 1) := by decide +kernel
theorem dX8_soon_68 : decode cX8_soon 68 = .ok (.istore 5, 2) := by decide +kernel
theorem dX8_soon_70 : decode cX8_soon 70 = .ok (.iload 4, 2) := by decide +kernel
theorem dX8_soon_72 : decode cX8_soon 72 = .ok (.ifCond .lt 11, 3) := by decide +kernel
theorem dX8_soon_75 : decode cX8_soon 75 = .ok (.iload 5, 2) := by decide +kernel
theorem dX8_soon_77 : decode cX8_soon 77 = .ok (.sipush 399, 3) := by decide +kernel
theorem dX8_soon_80 : decode cX8_soon 80 = .ok (.if_icmp .le 11, 3) := by decide +kernel
theorem dX8_soon_83 : decode cX8_soon 83 = .ok (.aload_n 0, 1) := by decide +kernel
theorem dX8_soon_84 : decode cX8_soon 84 = .ok (.iconst 2, 1) := by decide +kernel
theorem dX8_soon_85 : decode cX8_soon 85 = .ok (.invokevirtual 79, 3) := by decide +kernel
theorem dX8_soon_88 : decode cX8_soon 88 = .ok (.goto 5, 3) := by decide +kernel
theorem dX8_soon_91 : decode cX8_soon 91 = .ok (.iload 5, 2) := by decide +kernel
theorem dX8_soon_93 : decode cX8_soon 93 = .ok (.ireturn, 1) := by decide +kernel
set_option maxRecDepth 20000 in
theorem ggX8_odds_X8_isOutside : GoodIn wsX8_odds wsX8_isOutside := goodIn_r _ [4] (by decide +kernel) (by decide +kernel)
set_option maxRecDepth 20000 in
theorem gX8_odds_X8_isOutside : GoodIn wsX8_odds (va_wsS RX8 87 yX8_isOutside wsX8_isOutside) := goodIn_app (goodIn_of _ (by decide +kernel)) ggX8_odds_X8_isOutside
set_option maxRecDepth 20000 in
theorem ggX8_odds_X8_refuse : GoodIn wsX8_odds wsX8_refuse := goodIn_r _ [8, 9, 10, 30, 31, 32, 33, 34, 35, 36, 37, 38, 39, 40] (by decide +kernel) (by decide +kernel)
set_option maxRecDepth 20000 in
theorem gX8_odds_X8_refuse : GoodIn wsX8_odds (wsV RX8 79 RX8 yX8_refuse wsX8_refuse) := goodIn_app (goodIn_of _ (by decide +kernel)) ggX8_odds_X8_refuse
set_option maxRecDepth 20000 in
theorem ggX8_odds_X8_oddsPart : GoodIn wsX8_odds wsX8_oddsPart := goodIn_r _ [14, 15, 16, 17, 18, 3, 19, 20, 21, 22, 23, 24, 25, 26, 27, 28, 29, 30, 31, 32, 33, 34, 35, 36, 37, 38, 39, 40, 41, 42, 43, 44, 45, 46, 47, 48, 49, 50, 51, 52, 53, 54, 55, 56, 57] (by decide +kernel) (by decide +kernel)
set_option maxRecDepth 20000 in
theorem gX8_odds_X8_oddsPart : GoodIn wsX8_odds (wsV RX8 240 RX8 yX8_oddsPart wsX8_oddsPart) := goodIn_app (goodIn_of _ (by decide +kernel)) ggX8_odds_X8_oddsPart
theorem dX8_odds_0 : decode cX8_odds 0 = .ok (.iload_n 1, 1) := by decide +kernel
theorem dX8_odds_1 : decode cX8_odds 1 = .ok (.iconst 1, 1) := by decide +kernel
theorem dX8_odds_2 : decode cX8_odds 2 = .ok (.iconst 4, 1) := by decide +kernel
theorem dX8_odds_3 : decode cX8_odds 3 = .ok (.invokestatic 87, 3) := by decide +kernel
theorem dX8_odds_6 : decode cX8_odds 6 = .ok (.ifCond .ne 21, 3) := by decide +kernel
theorem dX8_odds_9 : decode cX8_odds 9 = .ok (.iload_n 2, 1) := by decide +kernel
theorem dX8_odds_10 : decode cX8_odds 10 = .ok (.iconst 1, 1) := by decide +kernel
theorem dX8_odds_11 : decode cX8_odds 11 = .ok (.iconst 4, 1) := by decide +kernel
theorem dX8_odds_12 : decode cX8_odds 12 = .ok (.invokestatic 87, 3) := by decide +kernel
theorem dX8_odds_15 : decode cX8_odds 15 = .ok (.ifCond .ne 12, 3) := by decide +kernel
theorem dX8_odds_18 : decode cX8_odds 18 = .ok (.iload_n 3, 1) := by decide +kernel
theorem dX8_odds_19 : decode cX8_odds 19 = .ok (.iconst 0, 1) := by decide +kernel
theorem dX8_odds_20 : decode cX8_odds 20 = .ok (.iconst 1, 1) := by decide +kernel
theorem dX8_odds_21 : decode cX8_odds 21 = .ok (.invokestatic 87, 3) := by decide +kernel
theorem dX8_odds_24 : decode cX8_odds 24 = .ok (.ifCond .eq 10, 3) := by decide +kernel
theorem dX8_odds_27 : decode cX8_odds 27 = .ok (.aload_n 0, 1) := by decide +kernel
theorem dX8_odds_28 : decode cX8_odds 28 = .ok (.iconst 1, 1) := by decide +kernel
theorem dX8_odds_29 : decode cX8_odds 29 = .ok (.invokevirtual 79, 3) := by decide +kernel
theorem dX8_odds_32 : decode cX8_odds 32 = .ok (.i2l, 1) := by decide +kernel
theorem dX8_odds_33 : decode cX8_odds 33 = .ok (.lreturn, 1) := by decide +kernel
theorem dX8_odds_34 : decode cX8_odds 34 = .ok (.aload_n 0, 1) := by decide +kernel
theorem dX8_odds_35 : decode cX8_odds 35 = .ok (.iload_n 1, 1) := by decide +kernel
theorem dX8_odds_36 : decode cX8_odds 36 = .ok (.iload_n 2, 1) := by decide +kernel
theorem dX8_odds_37 : decode cX8_odds 37 = .ok (.iload_n 3, 1) := by decide +kernel
theorem dX8_odds_38 : decode cX8_odds 38 = .ok (.invokevirtual 240, 3) := by decide +kernel
theorem dX8_odds_41 : decode cX8_odds 41 = .ok (.lreturn, 1) := by decide +kernel
set_option maxRecDepth 20000 in
theorem ggX8_enough_X8_isOutside : GoodIn wsX8_enough wsX8_isOutside := goodIn_r _ [5] (by decide +kernel) (by decide +kernel)
set_option maxRecDepth 20000 in
theorem gX8_enough_X8_isOutside : GoodIn wsX8_enough (va_wsS RX8 87 yX8_isOutside wsX8_isOutside) := goodIn_app (goodIn_of _ (by decide +kernel)) ggX8_enough_X8_isOutside
set_option maxRecDepth 20000 in
theorem ggX8_enough_X8_refuse : GoodIn wsX8_enough wsX8_refuse := goodIn_r _ [9, 10, 11, 31, 32, 33, 34, 35, 36, 37, 38, 39, 40, 41] (by decide +kernel) (by decide +kernel)
set_option maxRecDepth 20000 in
theorem gX8_enough_X8_refuse : GoodIn wsX8_enough (wsV RX8 79 RX8 yX8_refuse wsX8_refuse) := goodIn_app (goodIn_of _ (by decide +kernel)) ggX8_enough_X8_refuse
set_option maxRecDepth 20000 in
theorem ggX8_enough_X8_oddsPart : GoodIn wsX8_enough wsX8_oddsPart := goodIn_r _ [15, 16, 17, 18, 19, 4, 20, 21, 22, 23, 24, 25, 26, 27, 28, 29, 30, 31, 32, 33, 34, 35, 36, 37, 38, 39, 40, 41, 42, 43, 44, 45, 46, 47, 48, 49, 50, 51, 52, 53, 54, 55, 56, 57, 58] (by decide +kernel) (by decide +kernel)
set_option maxRecDepth 20000 in
theorem gX8_enough_X8_oddsPart : GoodIn wsX8_enough (wsV RX8 240 RX8 yX8_oddsPart wsX8_oddsPart) := goodIn_app (goodIn_of _ (by decide +kernel)) ggX8_enough_X8_oddsPart
theorem dX8_enough_0 : decode cX8_enough 0 = .ok (.iload_n 1, 1) := by decide +kernel
theorem dX8_enough_1 : decode cX8_enough 1 = .ok (.iconst 1, 1) := by decide +kernel
theorem dX8_enough_2 : decode cX8_enough 2 = .ok (.iconst 4, 1) := by decide +kernel
theorem dX8_enough_3 : decode cX8_enough 3 = .ok (.invokestatic 87, 3) := by decide +kernel
theorem dX8_enough_6 : decode cX8_enough 6 = .ok (.ifCond .ne 13, 3) := by decide +kernel
theorem dX8_enough_9 : decode cX8_enough 9 = .ok (.iload_n 2, 1) := by decide +kernel
theorem dX8_enough_10 : decode cX8_enough 10 = .ok (.iconst 0, 1) := by decide +kernel
theorem dX8_enough_11 : decode cX8_enough 11 = .ok (.bipush 100, 2) := by decide +kernel
theorem dX8_enough_13 : decode cX8_enough 13 = .ok (.invokestatic 87, 3) := by decide +kernel
theorem dX8_enough_16 : decode cX8_enough 16 = .ok (.ifCond .eq 9, 3) := by decide +kernel
theorem dX8_enough_19 : decode cX8_enough 19 = .ok (.aload_n 0, 1) := by decide +kernel
theorem dX8_enough_20 : decode cX8_enough 20 = .ok (.iconst 1, 1) := by decide +kernel
theorem dX8_enough_21 : decode cX8_enough 21 = .ok (.invokevirtual 79, 3) := by decide +kernel
theorem dX8_enough_24 : decode cX8_enough 24 = .ok (.ireturn, 1) := by decide +kernel
theorem dX8_enough_25 : decode cX8_enough 25 = .ok (.iconst 1, 1) := by decide +kernel
theorem dX8_enough_26 : decode cX8_enough 26 = .ok (.istore_n 3, 1) := by decide +kernel
theorem dX8_enough_27 : decode cX8_enough 27 = .ok (.iload_n 3, 1) := by decide +kernel
theorem dX8_enough_28 : decode cX8_enough 28 = .ok (.iconst 4, 1) := by decide +kernel
theorem dX8_enough_29 : decode cX8_enough 29 = .ok (.if_icmp .gt 36, 3) := by decide +kernel
theorem dX8_enough_32 : decode cX8_enough 32 = .ok (.aload_n 0, 1) := by decide +kernel
theorem dX8_enough_33 : decode cX8_enough 33 = .ok (.iload_n 1, 1) := by decide +kernel
theorem dX8_enough_34 : decode cX8_enough 34 = .ok (.iload_n 3, 1) := by decide +kernel
theorem dX8_enough_35 : decode cX8_enough 35 = .ok (.iconst 0, 1) := by decide +kernel
theorem dX8_enough_36 : decode cX8_enough 36 = .ok (.invokevirtual 240, 3) := by decide +kernel
theorem dX8_enough_39 : decode cX8_enough 39 = .ok (.ldc2_w 244, 3) := by decide +kernel
theorem dX8_enough_42 : decode cX8_enough 42 = .ok (.lmul, 1) := by decide +kernel
theorem dX8_enough_43 : decode cX8_enough 43 = .ok (.aload_n 0, 1) := by decide +kernel
theorem dX8_enough_44 : decode cX8_enough 44 = .ok (.iload_n 1, 1) := by decide +kernel
theorem dX8_enough_45 : decode cX8_enough 45 = .ok (.iload_n 3, 1) := by decide +kernel
theorem dX8_enough_46 : decode cX8_enough 46 = .ok (.iconst 1, 1) := by decide +kernel
theorem dX8_enough_47 : decode cX8_enough 47 = .ok (.invokevirtual 240, 3) := by decide +kernel
theorem dX8_enough_50 : decode cX8_enough 50 = .ok (.iload_n 2, 1) := by decide +kernel
theorem dX8_enough_51 : decode cX8_enough 51 = .ok (.i2l, 1) := by decide +kernel
theorem dX8_enough_52 : decode cX8_enough 52 = .ok (.lmul, 1) := by decide +kernel
theorem dX8_enough_53 : decode cX8_enough 53 = .ok (.lcmp, 1) := by decide +kernel
theorem dX8_enough_54 : decode cX8_enough 54 = .ok (.ifCond .lt 5, 3) := by decide +kernel
theorem dX8_enough_57 : decode cX8_enough 57 = .ok (.iload_n 3, 1) := by decide +kernel
theorem dX8_enough_58 : decode cX8_enough 58 = .ok (.ireturn, 1) := by decide +kernel
theorem dX8_enough_59 : decode cX8_enough 59 = .ok (.iinc 3 1, 3) := by decide +kernel
theorem dX8_enough_62 : decode cX8_enough 62 = .ok (.goto (-35), 3) := by decide +kernel
theorem dX8_enough_65 : decode cX8_enough 65 = .ok (.aload_n 0, 1) := by decide +kernel
theorem dX8_enough_66 : decode cX8_enough 66 = .ok (.iconst 2, 1) := by decide +kernel
theorem dX8_enough_67 : decode cX8_enough 67 = .ok (.invokevirtual 79, 3) := by decide +kernel
theorem dX8_enough_70 : decode cX8_enough 70 = .ok (.ireturn, 1) := by decide +kernel
set_option maxRecDepth 20000 in
theorem ggX8_pays_X8_isOutside : GoodIn wsX8_pays wsX8_isOutside := goodIn_r _ [6] (by decide +kernel) (by decide +kernel)
set_option maxRecDepth 20000 in
theorem gX8_pays_X8_isOutside : GoodIn wsX8_pays (va_wsS RX8 87 yX8_isOutside wsX8_isOutside) := goodIn_app (goodIn_of _ (by decide +kernel)) ggX8_pays_X8_isOutside
set_option maxRecDepth 20000 in
theorem ggX8_pays_X8_refuse : GoodIn wsX8_pays wsX8_refuse := goodIn_r _ [10, 11, 12, 16, 17, 18, 19, 20, 21, 22, 23, 24, 25, 26] (by decide +kernel) (by decide +kernel)
set_option maxRecDepth 20000 in
theorem gX8_pays_X8_refuse : GoodIn wsX8_pays (wsV RX8 79 RX8 yX8_refuse wsX8_refuse) := goodIn_app (goodIn_of _ (by decide +kernel)) ggX8_pays_X8_refuse
set_option maxRecDepth 20000 in
theorem ggX8_pays_X8_payAt : GoodIn wsX8_pays wsX8_payAt := goodIn_r _ [15] (by decide +kernel) (by decide +kernel)
set_option maxRecDepth 20000 in
theorem gX8_pays_X8_payAt : GoodIn wsX8_pays (va_wsS RX8 246 yX8_payAt wsX8_payAt) := goodIn_app (goodIn_of _ (by decide +kernel)) ggX8_pays_X8_payAt
theorem dX8_pays_0 : decode cX8_pays 0 = .ok (.iload_n 1, 1) := by decide +kernel
theorem dX8_pays_1 : decode cX8_pays 1 = .ok (.iconst 0, 1) := by decide +kernel
theorem dX8_pays_2 : decode cX8_pays 2 = .ok (.bipush 79, 2) := by decide +kernel
theorem dX8_pays_4 : decode cX8_pays 4 = .ok (.invokestatic 87, 3) := by decide +kernel
theorem dX8_pays_7 : decode cX8_pays 7 = .ok (.ifCond .ne 22, 3) := by decide +kernel
theorem dX8_pays_10 : decode cX8_pays 10 = .ok (.iload_n 1, 1) := by decide +kernel
theorem dX8_pays_11 : decode cX8_pays 11 = .ok (.bipush 10, 2) := by decide +kernel
theorem dX8_pays_13 : decode cX8_pays 13 = .ok (.irem, 1) := by decide +kernel
theorem dX8_pays_14 : decode cX8_pays 14 = .ok (.iconst 3, 1) := by decide +kernel
theorem dX8_pays_15 : decode cX8_pays 15 = .ok (.if_icmp .gt 14, 3) := by decide +kernel
theorem dX8_pays_18 : decode cX8_pays 18 = .ok (.iload_n 2, 1) := by decide +kernel
theorem dX8_pays_19 : decode cX8_pays 19 = .ok (.bipush (-99), 2) := by decide +kernel
theorem dX8_pays_21 : decode cX8_pays 21 = .ok (.bipush 99, 2) := by decide +kernel
theorem dX8_pays_23 : decode cX8_pays 23 = .ok (.invokestatic 87, 3) := by decide +kernel
theorem dX8_pays_26 : decode cX8_pays 26 = .ok (.ifCond .eq 9, 3) := by decide +kernel
theorem dX8_pays_29 : decode cX8_pays 29 = .ok (.aload_n 0, 1) := by decide +kernel
theorem dX8_pays_30 : decode cX8_pays 30 = .ok (.iconst 1, 1) := by decide +kernel
theorem dX8_pays_31 : decode cX8_pays 31 = .ok (.invokevirtual 79, 3) := by decide +kernel
theorem dX8_pays_34 : decode cX8_pays 34 = .ok (.ireturn, 1) := by decide +kernel
theorem dX8_pays_35 : decode cX8_pays 35 = .ok (.iload_n 1, 1) := by decide +kernel
theorem dX8_pays_36 : decode cX8_pays 36 = .ok (.bipush 20, 2) := by decide +kernel
theorem dX8_pays_38 : decode cX8_pays 38 = .ok (.idiv, 1) := by decide +kernel
theorem dX8_pays_39 : decode cX8_pays 39 = .ok (.iload_n 1, 1) := by decide +kernel
theorem dX8_pays_40 : decode cX8_pays 40 = .ok (.bipush 10, 2) := by decide +kernel
theorem dX8_pays_42 : decode cX8_pays 42 = .ok (.idiv, 1) := by decide +kernel
theorem dX8_pays_43 : decode cX8_pays 43 = .ok (.iconst 2, 1) := by decide +kernel
theorem dX8_pays_44 : decode cX8_pays 44 = .ok (.irem, 1) := by decide +kernel
theorem dX8_pays_45 : decode cX8_pays 45 = .ok (.iload_n 1, 1) := by decide +kernel
theorem dX8_pays_46 : decode cX8_pays 46 = .ok (.bipush 10, 2) := by decide +kernel
theorem dX8_pays_48 : decode cX8_pays 48 = .ok (.irem, 1) := by decide +kernel
theorem dX8_pays_49 : decode cX8_pays 49 = .ok (.invokestatic 246, 3) := by decide +kernel
theorem dX8_pays_52 : decode cX8_pays 52 = .ok (.istore_n 3, 1) := by decide +kernel
theorem dX8_pays_53 : decode cX8_pays 53 = .ok (.aload_n 0, 1) := by decide +kernel
theorem dX8_pays_54 : decode cX8_pays 54 = .ok (.getfield 16, 3) := by decide +kernel
theorem dX8_pays_57 : decode cX8_pays 57 = .ok (.getfield 249, 3) := by decide +kernel
theorem dX8_pays_60 : decode cX8_pays 60 = .ok (.iload_n 3, 1) := by decide +kernel
theorem dX8_pays_61 : decode cX8_pays 61 = .ok (.iaload, 1) := by decide +kernel
theorem dX8_pays_62 : decode cX8_pays 62 = .ok (.istore 4, 2) := by decide +kernel
theorem dX8_pays_64 : decode cX8_pays 64 = .ok (.aload_n 0, 1) := by decide +kernel
theorem dX8_pays_65 : decode cX8_pays 65 = .ok (.getfield 16, 3) := by decide +kernel
theorem dX8_pays_68 : decode cX8_pays 68 = .ok (.getfield 249, 3) := by decide +kernel
theorem dX8_pays_71 : decode cX8_pays 71 = .ok (.iload_n 3, 1) := by decide +kernel
theorem dX8_pays_72 : decode cX8_pays 72 = .ok (.iload_n 2, 1) := by decide +kernel
theorem dX8_pays_73 : decode cX8_pays 73 = .ok (.iastore, 1) := by decide +kernel
theorem dX8_pays_74 : decode cX8_pays 74 = .ok (.iload 4, 2) := by decide +kernel
theorem dX8_pays_76 : decode cX8_pays 76 = .ok (.ireturn, 1) := by decide +kernel
set_option maxRecDepth 20000 in
theorem ggX8_rest_X8_isPact : GoodIn wsX8_rest wsX8_isPact := goodIn_r _ [4, 5, 6, 3, 7] (by decide +kernel) (by decide +kernel)
set_option maxRecDepth 20000 in
theorem gX8_rest_X8_isPact : GoodIn wsX8_rest (va_wsS RX8 178 yX8_isPact wsX8_isPact) := goodIn_app (goodIn_of _ (by decide +kernel)) ggX8_rest_X8_isPact
set_option maxRecDepth 20000 in
theorem ggX8_rest_X8_refuse : GoodIn wsX8_rest wsX8_refuse := goodIn_r _ [11, 12, 13, 23, 24, 25, 26, 27, 28, 29, 30, 31, 32, 33] (by decide +kernel) (by decide +kernel)
set_option maxRecDepth 20000 in
theorem gX8_rest_X8_refuse : GoodIn wsX8_rest (wsV RX8 79 RX8 yX8_refuse wsX8_refuse) := goodIn_app (goodIn_of _ (by decide +kernel)) ggX8_rest_X8_refuse
set_option maxRecDepth 20000 in
theorem ggX8_rest_X8_gain : GoodIn wsX8_rest wsX8_gain := goodIn_r _ [17, 18, 19, 20, 21, 3, 22, 23, 24, 25, 26, 27, 28, 29, 30, 31, 32, 33, 34, 35, 36, 37, 38, 39, 40, 41, 42, 43, 44, 45, 46, 47, 48, 49, 50] (by decide +kernel) (by decide +kernel)
set_option maxRecDepth 20000 in
theorem gX8_rest_X8_gain : GoodIn wsX8_rest (wsV RX8 252 RX8 yX8_gain wsX8_gain) := goodIn_app (goodIn_of _ (by decide +kernel)) ggX8_rest_X8_gain
theorem dX8_rest_0 : decode cX8_rest 0 = .ok (.iload_n 1, 1) := by decide +kernel
theorem dX8_rest_1 : decode cX8_rest 1 = .ok (.invokestatic 178, 3) := by decide +kernel
theorem dX8_rest_4 : decode cX8_rest 4 = .ok (.ifCond .ne 9, 3) := by decide +kernel
theorem dX8_rest_7 : decode cX8_rest 7 = .ok (.aload_n 0, 1) := by decide +kernel
theorem dX8_rest_8 : decode cX8_rest 8 = .ok (.iconst 1, 1) := by decide +kernel
theorem dX8_rest_9 : decode cX8_rest 9 = .ok (.invokevirtual 79, 3) := by decide +kernel
theorem dX8_rest_12 : decode cX8_rest 12 = .ok (.ireturn, 1) := by decide +kernel
theorem dX8_rest_13 : decode cX8_rest 13 = .ok (.iconst 0, 1) := by decide +kernel
theorem dX8_rest_14 : decode cX8_rest 14 = .ok (.istore_n 2, 1) := by decide +kernel
theorem dX8_rest_15 : decode cX8_rest 15 = .ok (.iconst 0, 1) := by decide +kernel
theorem dX8_rest_16 : decode cX8_rest 16 = .ok (.istore_n 3, 1) := by decide +kernel
theorem dX8_rest_17 : decode cX8_rest 17 = .ok (.iload_n 3, 1) := by decide +kernel
theorem dX8_rest_18 : decode cX8_rest 18 = .ok (.iconst 4, 1) := by decide +kernel
theorem dX8_rest_19 : decode cX8_rest 19 = .ok (.if_icmp .ge 51, 3) := by decide +kernel
theorem dX8_rest_22 : decode cX8_rest 22 = .ok (.iload_n 3, 1) := by decide +kernel
theorem dX8_rest_23 : decode cX8_rest 23 = .ok (.iconst 2, 1) := by decide +kernel
theorem dX8_rest_24 : decode cX8_rest 24 = .ok (.idiv, 1) := by decide +kernel
theorem dX8_rest_25 : decode cX8_rest 25 = .ok (.istore 4, 2) := by decide +kernel
theorem dX8_rest_27 : decode cX8_rest 27 = .ok (.iload_n 3, 1) := by decide +kernel
theorem dX8_rest_28 : decode cX8_rest 28 = .ok (.iconst 2, 1) := by decide +kernel
theorem dX8_rest_29 : decode cX8_rest 29 = .ok (.irem, 1) := by decide +kernel
theorem dX8_rest_30 : decode cX8_rest 30 = .ok (.istore 5, 2) := by decide +kernel
theorem dX8_rest_32 : decode cX8_rest 32 = .ok (.aload_n 0, 1) := by decide +kernel
theorem dX8_rest_33 : decode cX8_rest 33 = .ok (.iload_n 1, 1) := by decide +kernel
theorem dX8_rest_34 : decode cX8_rest 34 = .ok (.iconst 0, 1) := by decide +kernel
theorem dX8_rest_35 : decode cX8_rest 35 = .ok (.iload 4, 2) := by decide +kernel
theorem dX8_rest_37 : decode cX8_rest 37 = .ok (.iload 5, 2) := by decide +kernel
theorem dX8_rest_39 : decode cX8_rest 39 = .ok (.invokevirtual 252, 3) := by decide +kernel
theorem dX8_rest_42 : decode cX8_rest 42 = .ok (.ifCond .lt 22, 3) := by decide +kernel
theorem dX8_rest_45 : decode cX8_rest 45 = .ok (.aload_n 0, 1) := by decide +kernel
theorem dX8_rest_46 : decode cX8_rest 46 = .ok (.iload_n 1, 1) := by decide +kernel
theorem dX8_rest_47 : decode cX8_rest 47 = .ok (.iconst 1, 1) := by decide +kernel
theorem dX8_rest_48 : decode cX8_rest 48 = .ok (.iload 5, 2) := by decide +kernel
theorem dX8_rest_50 : decode cX8_rest 50 = .ok (.iload 4, 2) := by decide +kernel
theorem dX8_rest_52 : decode cX8_rest 52 = .ok (.invokevirtual 252, 3) := by decide +kernel
theorem dX8_rest_55 : decode cX8_rest 55 = .ok (.ifCond .lt 9, 3) := by decide +kernel
theorem dX8_rest_58 : decode cX8_rest 58 = .ok (.iload_n 2, 1) := by decide +kernel
theorem dX8_rest_59 : decode cX8_rest 59 = .ok (.iconst 1, 1) := by decide +kernel
theorem dX8_rest_60 : decode cX8_rest 60 = .ok (.iload_n 3, 1) := by decide +kernel
theorem dX8_rest_61 : decode cX8_rest 61 = .ok (.ishl, 1) := by decide +kernel
theorem dX8_rest_62 : decode cX8_rest 62 = .ok (.ior, 1) := by decide +kernel
theorem dX8_rest_63 : decode cX8_rest 63 = .ok (.istore_n 2, 1) := by decide +kernel
theorem dX8_rest_64 : decode cX8_rest 64 = .ok (.iinc 3 1, 3) := by decide +kernel
theorem dX8_rest_67 : decode cX8_rest 67 = .ok (.goto (-50), 3) := by decide +kernel
theorem dX8_rest_70 : decode cX8_rest 70 = .ok (.iload_n 2, 1) := by decide +kernel
theorem dX8_rest_71 : decode cX8_rest 71 = .ok (.ireturn, 1) := by decide +kernel
set_option maxRecDepth 20000 in
theorem ggX8_answer_X8_isPact : GoodIn wsX8_answer wsX8_isPact := goodIn_r _ [4, 5, 6, 3, 7] (by decide +kernel) (by decide +kernel)
set_option maxRecDepth 20000 in
theorem gX8_answer_X8_isPact : GoodIn wsX8_answer (va_wsS RX8 178 yX8_isPact wsX8_isPact) := goodIn_app (goodIn_of _ (by decide +kernel)) ggX8_answer_X8_isPact
set_option maxRecDepth 20000 in
theorem ggX8_answer_X8_isOutside : GoodIn wsX8_answer wsX8_isOutside := goodIn_r _ [7] (by decide +kernel) (by decide +kernel)
set_option maxRecDepth 20000 in
theorem gX8_answer_X8_isOutside : GoodIn wsX8_answer (va_wsS RX8 87 yX8_isOutside wsX8_isOutside) := goodIn_app (goodIn_of _ (by decide +kernel)) ggX8_answer_X8_isOutside
set_option maxRecDepth 20000 in
theorem ggX8_answer_X8_refuse : GoodIn wsX8_answer wsX8_refuse := goodIn_r _ [11, 12, 13, 23, 24, 25, 26, 27, 28, 29, 30, 31, 32, 33] (by decide +kernel) (by decide +kernel)
set_option maxRecDepth 20000 in
theorem gX8_answer_X8_refuse : GoodIn wsX8_answer (wsV RX8 79 RX8 yX8_refuse wsX8_refuse) := goodIn_app (goodIn_of _ (by decide +kernel)) ggX8_answer_X8_refuse
set_option maxRecDepth 20000 in
theorem ggX8_answer_X8_gain : GoodIn wsX8_answer wsX8_gain := goodIn_r _ [17, 18, 19, 20, 21, 3, 22, 23, 24, 25, 26, 27, 28, 29, 30, 31, 32, 33, 34, 35, 36, 37, 38, 39, 40, 41, 42, 43, 44, 45, 46, 47, 48, 49, 50] (by decide +kernel) (by decide +kernel)
set_option maxRecDepth 20000 in
theorem gX8_answer_X8_gain : GoodIn wsX8_answer (wsV RX8 252 RX8 yX8_gain wsX8_gain) := goodIn_app (goodIn_of _ (by decide +kernel)) ggX8_answer_X8_gain
theorem dX8_answer_0 : decode cX8_answer 0 = .ok (.iload_n 1, 1) := by decide +kernel
theorem dX8_answer_1 : decode cX8_answer 1 = .ok (.invokestatic 178, 3) := by decide +kernel
theorem dX8_answer_4 : decode cX8_answer 4 = .ok (.ifCond .eq 21, 3) := by decide +kernel
theorem dX8_answer_7 : decode cX8_answer 7 = .ok (.iload_n 2, 1) := by decide +kernel
theorem dX8_answer_8 : decode cX8_answer 8 = .ok (.iconst 0, 1) := by decide +kernel
theorem dX8_answer_9 : decode cX8_answer 9 = .ok (.iconst 1, 1) := by decide +kernel
theorem dX8_answer_10 : decode cX8_answer 10 = .ok (.invokestatic 87, 3) := by decide +kernel
theorem dX8_answer_13 : decode cX8_answer 13 = .ok (.ifCond .ne 12, 3) := by decide +kernel
theorem dX8_answer_16 : decode cX8_answer 16 = .ok (.iload_n 3, 1) := by decide +kernel
theorem dX8_answer_17 : decode cX8_answer 17 = .ok (.iconst 0, 1) := by decide +kernel
theorem dX8_answer_18 : decode cX8_answer 18 = .ok (.iconst 1, 1) := by decide +kernel
theorem dX8_answer_19 : decode cX8_answer 19 = .ok (.invokestatic 87, 3) := by decide +kernel
theorem dX8_answer_22 : decode cX8_answer 22 = .ok (.ifCond .eq 9, 3) := by decide +kernel
theorem dX8_answer_25 : decode cX8_answer 25 = .ok (.aload_n 0, 1) := by decide +kernel
theorem dX8_answer_26 : decode cX8_answer 26 = .ok (.iconst 1, 1) := by decide +kernel
theorem dX8_answer_27 : decode cX8_answer 27 = .ok (.invokevirtual 79, 3) := by decide +kernel
theorem dX8_answer_30 : decode cX8_answer 30 = .ok (.ireturn, 1) := by decide +kernel
theorem dX8_answer_31 : decode cX8_answer 31 = .ok (.aload_n 0, 1) := by decide +kernel
theorem dX8_answer_32 : decode cX8_answer 32 = .ok (.iload_n 1, 1) := by decide +kernel
theorem dX8_answer_33 : decode cX8_answer 33 = .ok (.iload_n 2, 1) := by decide +kernel
theorem dX8_answer_34 : decode cX8_answer 34 = .ok (.iconst 1, 1) := by decide +kernel
theorem dX8_answer_35 : decode cX8_answer 35 = .ok (.iload_n 3, 1) := by decide +kernel
theorem dX8_answer_36 : decode cX8_answer 36 = .ok (.invokevirtual 252, 3) := by decide +kernel
theorem dX8_answer_39 : decode cX8_answer 39 = .ok (.ifCond .le 7, 3) := by decide +kernel
theorem dX8_answer_42 : decode cX8_answer 42 = .ok (.iconst 1, 1) := by decide +kernel
theorem dX8_answer_43 : decode cX8_answer 43 = .ok (.goto 4, 3) := by decide +kernel
theorem dX8_answer_46 : decode cX8_answer 46 = .ok (.iconst 0, 1) := by decide +kernel
theorem dX8_answer_47 : decode cX8_answer 47 = .ok (.ireturn, 1) := by decide +kernel
set_option maxRecDepth 20000 in
theorem ggX8_work_X8_isOutside : GoodIn wsX8_work wsX8_isOutside := goodIn_r _ [8] (by decide +kernel) (by decide +kernel)
set_option maxRecDepth 20000 in
theorem gX8_work_X8_isOutside : GoodIn wsX8_work (va_wsS RX8 87 yX8_isOutside wsX8_isOutside) := goodIn_app (goodIn_of _ (by decide +kernel)) ggX8_work_X8_isOutside
set_option maxRecDepth 20000 in
theorem ggX8_work_X8_refuse : GoodIn wsX8_work wsX8_refuse := goodIn_r _ [12, 13, 14, 15, 16, 17, 18, 19, 20, 21, 22, 23, 24, 25] (by decide +kernel) (by decide +kernel)
set_option maxRecDepth 20000 in
theorem gX8_work_X8_refuse : GoodIn wsX8_work (wsV RX8 79 RX8 yX8_refuse wsX8_refuse) := goodIn_app (goodIn_of _ (by decide +kernel)) ggX8_work_X8_refuse
theorem dX8_work_0 : decode cX8_work 0 = .ok (.iload_n 1, 1) := by decide +kernel
theorem dX8_work_1 : decode cX8_work 1 = .ok (.iconst 0, 1) := by decide +kernel
theorem dX8_work_2 : decode cX8_work 2 = .ok (.sipush 999, 3) := by decide +kernel
theorem dX8_work_5 : decode cX8_work 5 = .ok (.invokestatic 87, 3) := by decide +kernel
theorem dX8_work_8 : decode cX8_work 8 = .ok (.ifCond .ne 14, 3) := by decide +kernel
theorem dX8_work_11 : decode cX8_work 11 = .ok (.iload_n 2, 1) := by decide +kernel
theorem dX8_work_12 : decode cX8_work 12 = .ok (.iconst 0, 1) := by decide +kernel
theorem dX8_work_13 : decode cX8_work 13 = .ok (.sipush 999, 3) := by decide +kernel
theorem dX8_work_16 : decode cX8_work 16 = .ok (.invokestatic 87, 3) := by decide +kernel
theorem dX8_work_19 : decode cX8_work 19 = .ok (.ifCond .eq 9, 3) := by decide +kernel
theorem dX8_work_22 : decode cX8_work 22 = .ok (.aload_n 0, 1) := by decide +kernel
theorem dX8_work_23 : decode cX8_work 23 = .ok (.iconst 1, 1) := by decide +kernel
theorem dX8_work_24 : decode cX8_work 24 = .ok (.invokevirtual 79, 3) := by decide +kernel
theorem dX8_work_27 : decode cX8_work 27 = .ok (.ireturn, 1) := by decide +kernel
theorem dX8_work_28 : decode cX8_work 28 = .ok (.aload_n 0, 1) := by decide +kernel
theorem dX8_work_29 : decode cX8_work 29 = .ok (.getfield 16, 3) := by decide +kernel
theorem dX8_work_32 : decode cX8_work 32 = .ok (.getfield 255, 3) := by decide +kernel
theorem dX8_work_35 : decode cX8_work 35 = .ok (.bipush 8, 2) := by decide +kernel
theorem dX8_work_37 : decode cX8_work 37 = .ok (.if_icmp .lt 9, 3) := by decide +kernel
theorem dX8_work_40 : decode cX8_work 40 = .ok (.aload_n 0, 1) := by decide +kernel
theorem dX8_work_41 : decode cX8_work 41 = .ok (.iconst 4, 1) := by decide +kernel
theorem dX8_work_42 : decode cX8_work 42 = .ok (.invokevirtual 79, 3) := by decide +kernel
theorem dX8_work_45 : decode cX8_work 45 = .ok (.ireturn, 1) := by decide +kernel
theorem dX8_work_46 : decode cX8_work 46 = .ok (.aload_n 0, 1) := by decide +kernel
theorem dX8_work_47 : decode cX8_work 47 = .ok (.getfield 16, 3) := by decide +kernel
theorem dX8_work_50 : decode cX8_work 50 = .ok (.getfield 258, 3) := by decide +kernel
theorem dX8_work_53 : decode cX8_work 53 = .ok (.aload_n 0, 1) := by decide +kernel
theorem dX8_work_54 : decode cX8_work 54 = .ok (.getfield 16, 3) := by decide +kernel
theorem dX8_work_57 : decode cX8_work 57 = .ok (.getfield 255, 3) := by decide +kernel
theorem dX8_work_60 : decode cX8_work 60 = .ok (.iload_n 1, 1) := by decide +kernel
theorem dX8_work_61 : decode cX8_work 61 = .ok (.iastore, 1) := by decide +kernel
theorem dX8_work_62 : decode cX8_work 62 = .ok (.aload_n 0, 1) := by decide +kernel
theorem dX8_work_63 : decode cX8_work 63 = .ok (.getfield 16, 3) := by decide +kernel
theorem dX8_work_66 : decode cX8_work 66 = .ok (.getfield 261, 3) := by decide +kernel
theorem dX8_work_69 : decode cX8_work 69 = .ok (.aload_n 0, 1) := by decide +kernel
theorem dX8_work_70 : decode cX8_work 70 = .ok (.getfield 16, 3) := by decide +kernel
theorem dX8_work_73 : decode cX8_work 73 = .ok (.getfield 255, 3) := by decide +kernel
theorem dX8_work_76 : decode cX8_work 76 = .ok (.iload_n 2, 1) := by decide +kernel
theorem dX8_work_77 : decode cX8_work 77 = .ok (.iastore, 1) := by decide +kernel
theorem dX8_work_78 : decode cX8_work 78 = .ok (.aload_n 0, 1) := by decide +kernel
theorem dX8_work_79 : decode cX8_work 79 = .ok (.getfield 16, 3) := by decide +kernel
theorem dX8_work_82 : decode cX8_work 82 = .ok (.dup, 1) := by decide +kernel
theorem dX8_work_83 : decode cX8_work 83 = .ok (.getfield 255, 3) := by decide +kernel
theorem dX8_work_86 : decode cX8_work 86 = .ok (.iconst 1, 1) := by decide +kernel
theorem dX8_work_87 : decode cX8_work 87 = .ok (.iadd, 1) := by decide +kernel
theorem dX8_work_88 : decode cX8_work 88 = .ok (.putfield 255, 3) := by decide +kernel
theorem dX8_work_91 : decode cX8_work 91 = .ok (.aload_n 0, 1) := by decide +kernel
theorem dX8_work_92 : decode cX8_work 92 = .ok (.getfield 16, 3) := by decide +kernel
theorem dX8_work_95 : decode cX8_work 95 = .ok (.getfield 255, 3) := by decide +kernel
theorem dX8_work_98 : decode cX8_work 98 = .ok (.iconst 1, 1) := by decide +kernel
theorem dX8_work_99 : decode cX8_work 99 = .ok (.isub, 1) := by decide +kernel
theorem dX8_work_100 : decode cX8_work 100 = .ok (.ireturn, 1) := by decide +kernel
set_option maxRecDepth 20000 in
theorem ggX8_blind_X8_isOutside : GoodIn wsX8_blind wsX8_isOutside := goodIn_r _ [6] (by decide +kernel) (by decide +kernel)
set_option maxRecDepth 20000 in
theorem gX8_blind_X8_isOutside : GoodIn wsX8_blind (va_wsS RX8 87 yX8_isOutside wsX8_isOutside) := goodIn_app (goodIn_of _ (by decide +kernel)) ggX8_blind_X8_isOutside
set_option maxRecDepth 20000 in
theorem ggX8_blind_X8_isPart : GoodIn wsX8_blind wsX8_isPart := goodIn_r _ [9, 3, 4, 5, 6] (by decide +kernel) (by decide +kernel)
set_option maxRecDepth 20000 in
theorem gX8_blind_X8_isPart : GoodIn wsX8_blind (va_wsS RX8 115 yX8_isPart wsX8_isPart) := goodIn_app (goodIn_of _ (by decide +kernel)) ggX8_blind_X8_isPart
set_option maxRecDepth 20000 in
theorem ggX8_blind_X8_refuse : GoodIn wsX8_blind wsX8_refuse := goodIn_r _ [13, 14, 15, 22, 23, 24, 25, 26, 27, 28, 29, 30, 31, 32] (by decide +kernel) (by decide +kernel)
set_option maxRecDepth 20000 in
theorem gX8_blind_X8_refuse : GoodIn wsX8_blind (wsV RX8 79 RX8 yX8_refuse wsX8_refuse) := goodIn_app (goodIn_of _ (by decide +kernel)) ggX8_blind_X8_refuse
set_option maxRecDepth 20000 in
theorem ggX8_blind_X8_isWorthwhile : GoodIn wsX8_blind wsX8_isWorthwhile := goodIn_r _ [19, 1, 20, 21, 22, 23, 24, 25, 26, 27, 28, 29, 30, 31, 32, 33, 34, 35, 36, 37, 38, 39, 40, 41, 42, 43, 44, 45, 46, 47, 48, 49] (by decide +kernel) (by decide +kernel)
set_option maxRecDepth 20000 in
theorem gX8_blind_X8_isWorthwhile : GoodIn wsX8_blind (wsV RX8 264 RX8 yX8_isWorthwhile wsX8_isWorthwhile) := goodIn_app (goodIn_of _ (by decide +kernel)) ggX8_blind_X8_isWorthwhile
theorem dX8_blind_0 : decode cX8_blind 0 = .ok (.iload_n 1, 1) := by decide +kernel
theorem dX8_blind_1 : decode cX8_blind 1 = .ok (.iconst 0, 1) := by decide +kernel
theorem dX8_blind_2 : decode cX8_blind 2 = .ok (.aload_n 0, 1) := by decide +kernel
theorem dX8_blind_3 : decode cX8_blind 3 = .ok (.getfield 16, 3) := by decide +kernel
theorem dX8_blind_6 : decode cX8_blind 6 = .ok (.getfield 255, 3) := by decide +kernel
theorem dX8_blind_9 : decode cX8_blind 9 = .ok (.iconst 1, 1) := by decide +kernel
theorem dX8_blind_10 : decode cX8_blind 10 = .ok (.isub, 1) := by decide +kernel
theorem dX8_blind_11 : decode cX8_blind 11 = .ok (.invokestatic 87, 3) := by decide +kernel
theorem dX8_blind_14 : decode cX8_blind 14 = .ok (.ifCond .ne 12, 3) := by decide +kernel
theorem dX8_blind_17 : decode cX8_blind 17 = .ok (.iload_n 2, 1) := by decide +kernel
theorem dX8_blind_18 : decode cX8_blind 18 = .ok (.bipush 9, 2) := by decide +kernel
theorem dX8_blind_20 : decode cX8_blind 20 = .ok (.invokestatic 115, 3) := by decide +kernel
theorem dX8_blind_23 : decode cX8_blind 23 = .ok (.ifCond .ne 9, 3) := by decide +kernel
theorem dX8_blind_26 : decode cX8_blind 26 = .ok (.aload_n 0, 1) := by decide +kernel
theorem dX8_blind_27 : decode cX8_blind 27 = .ok (.iconst 1, 1) := by decide +kernel
theorem dX8_blind_28 : decode cX8_blind 28 = .ok (.invokevirtual 79, 3) := by decide +kernel
theorem dX8_blind_31 : decode cX8_blind 31 = .ok (.ireturn, 1) := by decide +kernel
theorem dX8_blind_32 : decode cX8_blind 32 = .ok (.aload_n 0, 1) := by decide +kernel
theorem dX8_blind_33 : decode cX8_blind 33 = .ok (.iload_n 1, 1) := by decide +kernel
theorem dX8_blind_34 : decode cX8_blind 34 = .ok (.iload_n 2, 1) := by decide +kernel
theorem dX8_blind_35 : decode cX8_blind 35 = .ok (.bipush 10, 2) := by decide +kernel
theorem dX8_blind_37 : decode cX8_blind 37 = .ok (.idiv, 1) := by decide +kernel
theorem dX8_blind_38 : decode cX8_blind 38 = .ok (.iload_n 2, 1) := by decide +kernel
theorem dX8_blind_39 : decode cX8_blind 39 = .ok (.bipush 10, 2) := by decide +kernel
theorem dX8_blind_41 : decode cX8_blind 41 = .ok (.irem, 1) := by decide +kernel
theorem dX8_blind_42 : decode cX8_blind 42 = .ok (.invokevirtual 264, 3) := by decide +kernel
theorem dX8_blind_45 : decode cX8_blind 45 = .ok (.ifCond .eq 7, 3) := by decide +kernel
theorem dX8_blind_48 : decode cX8_blind 48 = .ok (.iconst 1, 1) := by decide +kernel
theorem dX8_blind_49 : decode cX8_blind 49 = .ok (.goto 4, 3) := by decide +kernel
theorem dX8_blind_52 : decode cX8_blind 52 = .ok (.iconst 0, 1) := by decide +kernel
theorem dX8_blind_53 : decode cX8_blind 53 = .ok (.ireturn, 1) := by decide +kernel
set_option maxRecDepth 20000 in
theorem ggX8_edge_X8_isOutside : GoodIn wsX8_edge wsX8_isOutside := goodIn_r _ [6] (by decide +kernel) (by decide +kernel)
set_option maxRecDepth 20000 in
theorem gX8_edge_X8_isOutside : GoodIn wsX8_edge (va_wsS RX8 87 yX8_isOutside wsX8_isOutside) := goodIn_app (goodIn_of _ (by decide +kernel)) ggX8_edge_X8_isOutside
set_option maxRecDepth 20000 in
theorem ggX8_edge_X8_refuse : GoodIn wsX8_edge wsX8_refuse := goodIn_r _ [10, 11, 12, 19, 20, 21, 22, 23, 24, 25, 26, 27, 28, 29] (by decide +kernel) (by decide +kernel)
set_option maxRecDepth 20000 in
theorem gX8_edge_X8_refuse : GoodIn wsX8_edge (wsV RX8 79 RX8 yX8_refuse wsX8_refuse) := goodIn_app (goodIn_of _ (by decide +kernel)) ggX8_edge_X8_refuse
set_option maxRecDepth 20000 in
theorem ggX8_edge_X8_isWorthwhile : GoodIn wsX8_edge wsX8_isWorthwhile := goodIn_r _ [16, 1, 17, 18, 19, 20, 21, 22, 23, 24, 25, 26, 27, 28, 29, 30, 31, 32, 33, 34, 35, 36, 37, 38, 39, 40, 41, 42, 43, 44, 45, 46] (by decide +kernel) (by decide +kernel)
set_option maxRecDepth 20000 in
theorem gX8_edge_X8_isWorthwhile : GoodIn wsX8_edge (wsV RX8 264 RX8 yX8_isWorthwhile wsX8_isWorthwhile) := goodIn_app (goodIn_of _ (by decide +kernel)) ggX8_edge_X8_isWorthwhile
theorem dX8_edge_0 : decode cX8_edge 0 = .ok (.iload_n 1, 1) := by decide +kernel
theorem dX8_edge_1 : decode cX8_edge 1 = .ok (.iconst 0, 1) := by decide +kernel
theorem dX8_edge_2 : decode cX8_edge 2 = .ok (.aload_n 0, 1) := by decide +kernel
theorem dX8_edge_3 : decode cX8_edge 3 = .ok (.getfield 16, 3) := by decide +kernel
theorem dX8_edge_6 : decode cX8_edge 6 = .ok (.getfield 255, 3) := by decide +kernel
theorem dX8_edge_9 : decode cX8_edge 9 = .ok (.iconst 1, 1) := by decide +kernel
theorem dX8_edge_10 : decode cX8_edge 10 = .ok (.isub, 1) := by decide +kernel
theorem dX8_edge_11 : decode cX8_edge 11 = .ok (.invokestatic 87, 3) := by decide +kernel
theorem dX8_edge_14 : decode cX8_edge 14 = .ok (.ifCond .ne 13, 3) := by decide +kernel
theorem dX8_edge_17 : decode cX8_edge 17 = .ok (.iload_n 2, 1) := by decide +kernel
theorem dX8_edge_18 : decode cX8_edge 18 = .ok (.iconst 1, 1) := by decide +kernel
theorem dX8_edge_19 : decode cX8_edge 19 = .ok (.bipush 9, 2) := by decide +kernel
theorem dX8_edge_21 : decode cX8_edge 21 = .ok (.invokestatic 87, 3) := by decide +kernel
theorem dX8_edge_24 : decode cX8_edge 24 = .ok (.ifCond .eq 9, 3) := by decide +kernel
theorem dX8_edge_27 : decode cX8_edge 27 = .ok (.aload_n 0, 1) := by decide +kernel
theorem dX8_edge_28 : decode cX8_edge 28 = .ok (.iconst 1, 1) := by decide +kernel
theorem dX8_edge_29 : decode cX8_edge 29 = .ok (.invokevirtual 79, 3) := by decide +kernel
theorem dX8_edge_32 : decode cX8_edge 32 = .ok (.ireturn, 1) := by decide +kernel
theorem dX8_edge_33 : decode cX8_edge 33 = .ok (.iconst 0, 1) := by decide +kernel
theorem dX8_edge_34 : decode cX8_edge 34 = .ok (.istore_n 3, 1) := by decide +kernel
theorem dX8_edge_35 : decode cX8_edge 35 = .ok (.iload_n 3, 1) := by decide +kernel
theorem dX8_edge_36 : decode cX8_edge 36 = .ok (.iload_n 2, 1) := by decide +kernel
theorem dX8_edge_37 : decode cX8_edge 37 = .ok (.if_icmp .gt 21, 3) := by decide +kernel
theorem dX8_edge_40 : decode cX8_edge 40 = .ok (.aload_n 0, 1) := by decide +kernel
theorem dX8_edge_41 : decode cX8_edge 41 = .ok (.iload_n 1, 1) := by decide +kernel
theorem dX8_edge_42 : decode cX8_edge 42 = .ok (.iload_n 3, 1) := by decide +kernel
theorem dX8_edge_43 : decode cX8_edge 43 = .ok (.iload_n 2, 1) := by decide +kernel
theorem dX8_edge_44 : decode cX8_edge 44 = .ok (.invokevirtual 264, 3) := by decide +kernel
theorem dX8_edge_47 : decode cX8_edge 47 = .ok (.ifCond .eq 5, 3) := by decide +kernel
theorem dX8_edge_50 : decode cX8_edge 50 = .ok (.iload_n 3, 1) := by decide +kernel
theorem dX8_edge_51 : decode cX8_edge 51 = .ok (.ireturn, 1) := by decide +kernel
theorem dX8_edge_52 : decode cX8_edge 52 = .ok (.iinc 3 1, 3) := by decide +kernel
theorem dX8_edge_55 : decode cX8_edge 55 = .ok (.goto (-20), 3) := by decide +kernel
theorem dX8_edge_58 : decode cX8_edge 58 = .ok (.aload_n 0, 1) := by decide +kernel
theorem dX8_edge_59 : decode cX8_edge 59 = .ok (.iconst 2, 1) := by decide +kernel
theorem dX8_edge_60 : decode cX8_edge 60 = .ok (.invokevirtual 79, 3) := by decide +kernel
theorem dX8_edge_63 : decode cX8_edge 63 = .ok (.ireturn, 1) := by decide +kernel
set_option maxRecDepth 20000 in
theorem ggX8_minds_X8_isOutside : GoodIn wsX8_minds wsX8_isOutside := goodIn_r _ [6] (by decide +kernel) (by decide +kernel)
set_option maxRecDepth 20000 in
theorem gX8_minds_X8_isOutside : GoodIn wsX8_minds (va_wsS RX8 87 yX8_isOutside wsX8_isOutside) := goodIn_app (goodIn_of _ (by decide +kernel)) ggX8_minds_X8_isOutside
set_option maxRecDepth 20000 in
theorem ggX8_minds_X8_refuse : GoodIn wsX8_minds wsX8_refuse := goodIn_r _ [10, 11, 12, 36, 37, 38, 39, 40, 41, 42, 43, 44, 45, 46] (by decide +kernel) (by decide +kernel)
set_option maxRecDepth 20000 in
theorem gX8_minds_X8_refuse : GoodIn wsX8_minds (wsV RX8 79 RX8 yX8_refuse wsX8_refuse) := goodIn_app (goodIn_of _ (by decide +kernel)) ggX8_minds_X8_refuse
set_option maxRecDepth 20000 in
theorem ggX8_minds_X8_areOfTwoMinds : GoodIn wsX8_minds wsX8_areOfTwoMinds := goodIn_r _ [16, 17, 18, 19, 20, 21, 5, 22, 23, 24, 25, 26, 27, 28, 29, 30, 31, 32, 33, 34, 35, 36, 37, 38, 39, 40, 41, 42, 43, 44, 45, 46, 64, 65] (by decide +kernel) (by decide +kernel)
set_option maxRecDepth 20000 in
theorem gX8_minds_X8_areOfTwoMinds : GoodIn wsX8_minds (wsV RX8 267 RX8 yX8_areOfTwoMinds wsX8_areOfTwoMinds) := goodIn_app (goodIn_of _ (by decide +kernel)) ggX8_minds_X8_areOfTwoMinds
theorem dX8_minds_0 : decode cX8_minds 0 = .ok (.iload_n 1, 1) := by decide +kernel
theorem dX8_minds_1 : decode cX8_minds 1 = .ok (.iconst 0, 1) := by decide +kernel
theorem dX8_minds_2 : decode cX8_minds 2 = .ok (.iconst 1, 1) := by decide +kernel
theorem dX8_minds_3 : decode cX8_minds 3 = .ok (.invokestatic 87, 3) := by decide +kernel
theorem dX8_minds_6 : decode cX8_minds 6 = .ok (.ifCond .ne 12, 3) := by decide +kernel
theorem dX8_minds_9 : decode cX8_minds 9 = .ok (.iload_n 2, 1) := by decide +kernel
theorem dX8_minds_10 : decode cX8_minds 10 = .ok (.iconst 0, 1) := by decide +kernel
theorem dX8_minds_11 : decode cX8_minds 11 = .ok (.iconst 1, 1) := by decide +kernel
theorem dX8_minds_12 : decode cX8_minds 12 = .ok (.invokestatic 87, 3) := by decide +kernel
theorem dX8_minds_15 : decode cX8_minds 15 = .ok (.ifCond .eq 9, 3) := by decide +kernel
theorem dX8_minds_18 : decode cX8_minds 18 = .ok (.aload_n 0, 1) := by decide +kernel
theorem dX8_minds_19 : decode cX8_minds 19 = .ok (.iconst 1, 1) := by decide +kernel
theorem dX8_minds_20 : decode cX8_minds 20 = .ok (.invokevirtual 79, 3) := by decide +kernel
theorem dX8_minds_23 : decode cX8_minds 23 = .ok (.ireturn, 1) := by decide +kernel
theorem dX8_minds_24 : decode cX8_minds 24 = .ok (.aload_n 0, 1) := by decide +kernel
theorem dX8_minds_25 : decode cX8_minds 25 = .ok (.getfield 16, 3) := by decide +kernel
theorem dX8_minds_28 : decode cX8_minds 28 = .ok (.getfield 207, 3) := by decide +kernel
theorem dX8_minds_31 : decode cX8_minds 31 = .ok (.bipush 6, 2) := by decide +kernel
theorem dX8_minds_33 : decode cX8_minds 33 = .ok (.iload_n 1, 1) := by decide +kernel
theorem dX8_minds_34 : decode cX8_minds 34 = .ok (.iadd, 1) := by decide +kernel
theorem dX8_minds_35 : decode cX8_minds 35 = .ok (.aaload, 1) := by decide +kernel
theorem dX8_minds_36 : decode cX8_minds 36 = .ok (.astore_n 3, 1) := by decide +kernel
theorem dX8_minds_37 : decode cX8_minds 37 = .ok (.iconst 0, 1) := by decide +kernel
theorem dX8_minds_38 : decode cX8_minds 38 = .ok (.istore 4, 2) := by decide +kernel
theorem dX8_minds_40 : decode cX8_minds 40 = .ok (.iconst 0, 1) := by decide +kernel
theorem dX8_minds_41 : decode cX8_minds 41 = .ok (.istore 5, 2) := by decide +kernel
theorem dX8_minds_43 : decode cX8_minds 43 = .ok (.iload 5, 2) := by decide +kernel
theorem dX8_minds_45 : decode cX8_minds 45 = .ok (.bipush 6, 2) := by decide +kernel
theorem dX8_minds_47 : decode cX8_minds 47 = .ok (.if_icmp .ge 119, 3) := by decide +kernel
theorem dX8_minds_50 : decode cX8_minds 50 = .ok (.iload 5, 2) := by decide +kernel
theorem dX8_minds_52 : decode cX8_minds 52 = .ok (.iconst 1, 1) := by decide +kernel
theorem dX8_minds_53 : decode cX8_minds 53 = .ok (.iadd, 1) := by decide +kernel
theorem dX8_minds_54 : decode cX8_minds 54 = .ok (.istore 6, 2) := by decide +kernel
theorem dX8_minds_56 : decode cX8_minds 56 = .ok (.iload 6, 2) := by decide +kernel
