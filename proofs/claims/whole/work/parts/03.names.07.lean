theorem dX9_unit_184 : decode cX9_unit 184 = .ok (.isub, 1) := by decide +kernel
theorem dX9_unit_185 : decode cX9_unit 185 = .ok (.istore_n 3, 1) := by decide +kernel
theorem dX9_unit_186 : decode cX9_unit 186 = .ok (.aload_n 0, 1) := by decide +kernel
theorem dX9_unit_187 : decode cX9_unit 187 = .ok (.dup, 1) := by decide +kernel
theorem dX9_unit_188 : decode cX9_unit 188 = .ok (.getfield 180, 3) := by decide +kernel
theorem dX9_unit_191 : decode cX9_unit 191 = .ok (.iconst 1, 1) := by decide +kernel
theorem dX9_unit_192 : decode cX9_unit 192 = .ok (.iadd, 1) := by decide +kernel
theorem dX9_unit_193 : decode cX9_unit 193 = .ok (.putfield 180, 3) := by decide +kernel
theorem dX9_unit_196 : decode cX9_unit 196 = .ok (.iinc 4 1, 3) := by decide +kernel
theorem dX9_unit_199 : decode cX9_unit 199 = .ok (.goto (-49), 3) := by decide +kernel
theorem dX9_unit_202 : decode cX9_unit 202 = .ok (.iload 4, 2) := by decide +kernel
theorem dX9_unit_204 : decode cX9_unit 204 = .ok (.ifCond .ne 10, 3) := by decide +kernel
theorem dX9_unit_207 : decode cX9_unit 207 = .ok (.aload_n 0, 1) := by decide +kernel
theorem dX9_unit_208 : decode cX9_unit 208 = .ok (.invokevirtual 221, 3) := by decide +kernel
theorem dX9_unit_211 : decode cX9_unit 211 = .ok (.goto 4, 3) := by decide +kernel
theorem dX9_unit_214 : decode cX9_unit 214 = .ok (.iload_n 3, 1) := by decide +kernel
theorem dX9_unit_215 : decode cX9_unit 215 = .ok (.ireturn, 1) := by decide +kernel
set_option maxRecDepth 20000 in
theorem ggX9_worked_X9_either : GoodIn wsX9_worked wsX9_either := goodIn_r _ [11, 12, 13, 14, 10, 15, 16, 17, 18, 2, 19, 20, 21, 22, 3, 4, 23, 1, 24, 25, 26, 27, 28, 29, 30, 31, 32, 33, 34, 35, 36, 37, 38, 39, 40, 5, 41, 42, 43, 44, 45, 46, 47, 7, 8, 9, 48, 49, 50, 51, 6, 52, 53, 54, 55, 56, 57, 58, 59, 60, 61, 62, 63, 64, 65, 66, 67, 68, 69, 70, 71, 72, 73, 74, 75, 76, 77] (by decide +kernel) (by decide +kernel)
set_option maxRecDepth 20000 in
theorem gX9_worked_X9_either : GoodIn wsX9_worked (wsV RX9 224 RX9 yX9_either wsX9_either) := goodIn_app (goodIn_of _ (by decide +kernel)) ggX9_worked_X9_either
set_option maxRecDepth 20000 in
theorem ggX9_worked_X9_wrong : GoodIn wsX9_worked wsX9_wrong := goodIn_r _ [47, 4, 2, 55, 56, 57, 58, 59, 60, 61, 62, 63, 64, 65, 66, 67, 68, 69, 70, 71, 72, 73, 74, 75, 76, 77] (by decide +kernel) (by decide +kernel)
set_option maxRecDepth 20000 in
theorem gX9_worked_X9_wrong : GoodIn wsX9_worked (wsV RX9 221 RX9 yX9_wrong wsX9_wrong) := goodIn_app (goodIn_of _ (by decide +kernel)) ggX9_worked_X9_wrong
theorem dX9_worked_0 : decode cX9_worked 0 = .ok (.aload_n 0, 1) := by decide +kernel
theorem dX9_worked_1 : decode cX9_worked 1 = .ok (.iload_n 1, 1) := by decide +kernel
theorem dX9_worked_2 : decode cX9_worked 2 = .ok (.putfield 190, 3) := by decide +kernel
theorem dX9_worked_5 : decode cX9_worked 5 = .ok (.aload_n 0, 1) := by decide +kernel
theorem dX9_worked_6 : decode cX9_worked 6 = .ok (.iconst 0, 1) := by decide +kernel
theorem dX9_worked_7 : decode cX9_worked 7 = .ok (.putfield 180, 3) := by decide +kernel
theorem dX9_worked_10 : decode cX9_worked 10 = .ok (.aload_n 0, 1) := by decide +kernel
theorem dX9_worked_11 : decode cX9_worked 11 = .ok (.iload_n 2, 1) := by decide +kernel
theorem dX9_worked_12 : decode cX9_worked 12 = .ok (.putfield 184, 3) := by decide +kernel
theorem dX9_worked_15 : decode cX9_worked 15 = .ok (.aload_n 0, 1) := by decide +kernel
theorem dX9_worked_16 : decode cX9_worked 16 = .ok (.iconst (-1), 1) := by decide +kernel
theorem dX9_worked_17 : decode cX9_worked 17 = .ok (.putfield 187, 3) := by decide +kernel
theorem dX9_worked_20 : decode cX9_worked 20 = .ok (.aload_n 0, 1) := by decide +kernel
theorem dX9_worked_21 : decode cX9_worked 21 = .ok (.iconst 0, 1) := by decide +kernel
theorem dX9_worked_22 : decode cX9_worked 22 = .ok (.putfield 218, 3) := by decide +kernel
theorem dX9_worked_25 : decode cX9_worked 25 = .ok (.aload_n 0, 1) := by decide +kernel
theorem dX9_worked_26 : decode cX9_worked 26 = .ok (.iload_n 3, 1) := by decide +kernel
theorem dX9_worked_27 : decode cX9_worked 27 = .ok (.bipush 6, 2) := by decide +kernel
theorem dX9_worked_29 : decode cX9_worked 29 = .ok (.if_icmp .ge 7, 3) := by decide +kernel
theorem dX9_worked_32 : decode cX9_worked 32 = .ok (.iconst 1, 1) := by decide +kernel
theorem dX9_worked_33 : decode cX9_worked 33 = .ok (.goto 4, 3) := by decide +kernel
theorem dX9_worked_36 : decode cX9_worked 36 = .ok (.iconst 0, 1) := by decide +kernel
theorem dX9_worked_37 : decode cX9_worked 37 = .ok (.putfield 196, 3) := by decide +kernel
theorem dX9_worked_40 : decode cX9_worked 40 = .ok (.aload_n 0, 1) := by decide +kernel
theorem dX9_worked_41 : decode cX9_worked 41 = .ok (.invokevirtual 224, 3) := by decide +kernel
theorem dX9_worked_44 : decode cX9_worked 44 = .ok (.istore 4, 2) := by decide +kernel
theorem dX9_worked_46 : decode cX9_worked 46 = .ok (.aload_n 0, 1) := by decide +kernel
theorem dX9_worked_47 : decode cX9_worked 47 = .ok (.getfield 187, 3) := by decide +kernel
theorem dX9_worked_50 : decode cX9_worked 50 = .ok (.ifCond .ge 19, 3) := by decide +kernel
theorem dX9_worked_53 : decode cX9_worked 53 = .ok (.aload_n 0, 1) := by decide +kernel
theorem dX9_worked_54 : decode cX9_worked 54 = .ok (.getfield 180, 3) := by decide +kernel
theorem dX9_worked_57 : decode cX9_worked 57 = .ok (.aload_n 0, 1) := by decide +kernel
theorem dX9_worked_58 : decode cX9_worked 58 = .ok (.getfield 184, 3) := by decide +kernel
theorem dX9_worked_61 : decode cX9_worked 61 = .ok (.if_icmp .ge 8, 3) := by decide +kernel
theorem dX9_worked_64 : decode cX9_worked 64 = .ok (.aload_n 0, 1) := by decide +kernel
theorem dX9_worked_65 : decode cX9_worked 65 = .ok (.invokevirtual 221, 3) := by decide +kernel
theorem dX9_worked_68 : decode cX9_worked 68 = .ok (.ireturn, 1) := by decide +kernel
theorem dX9_worked_69 : decode cX9_worked 69 = .ok (.iload 4, 2) := by decide +kernel
theorem dX9_worked_71 : decode cX9_worked 71 = .ok (.ireturn, 1) := by decide +kernel
set_option maxRecDepth 20000 in
theorem ggX9_feed_X9_in : GoodIn wsX9_feed wsX9_in := goodIn_r _ [7] (by decide +kernel) (by decide +kernel)
set_option maxRecDepth 20000 in
theorem gX9_feed_X9_in : GoodIn wsX9_feed (va_wsS RX9 54 yX9_in wsX9_in) := goodIn_app (goodIn_of _ (by decide +kernel)) ggX9_feed_X9_in
set_option maxRecDepth 20000 in
theorem ggX9_feed_X9_finds : GoodIn wsX9_feed wsX9_finds := goodIn_r _ [11, 12, 13, 14, 15, 16, 17, 18, 19, 20, 21, 22, 23, 24, 25, 26, 27, 28, 29, 30, 31, 32, 33, 34, 35, 36] (by decide +kernel) (by decide +kernel)
set_option maxRecDepth 20000 in
theorem gX9_feed_X9_finds : GoodIn wsX9_feed (wsV RX9 68 RX9 yX9_finds wsX9_finds) := goodIn_app (goodIn_of _ (by decide +kernel)) ggX9_feed_X9_finds
theorem dX9_feed_0 : decode cX9_feed 0 = .ok (.iload_n 3, 1) := by decide +kernel
theorem dX9_feed_1 : decode cX9_feed 1 = .ok (.i2l, 1) := by decide +kernel
theorem dX9_feed_2 : decode cX9_feed 2 = .ok (.lconst 1, 1) := by decide +kernel
theorem dX9_feed_3 : decode cX9_feed 3 = .ok (.ldc2_w 234, 3) := by decide +kernel
theorem dX9_feed_6 : decode cX9_feed 6 = .ok (.invokestatic 54, 3) := by decide +kernel
theorem dX9_feed_9 : decode cX9_feed 9 = .ok (.ifCond .ne 9, 3) := by decide +kernel
theorem dX9_feed_12 : decode cX9_feed 12 = .ok (.aload_n 0, 1) := by decide +kernel
theorem dX9_feed_13 : decode cX9_feed 13 = .ok (.iconst 1, 1) := by decide +kernel
theorem dX9_feed_14 : decode cX9_feed 14 = .ok (.invokevirtual 68, 3) := by decide +kernel
theorem dX9_feed_17 : decode cX9_feed 17 = .ok (.ireturn, 1) := by decide +kernel
theorem dX9_feed_18 : decode cX9_feed 18 = .ok (.aload_n 0, 1) := by decide +kernel
theorem dX9_feed_19 : decode cX9_feed 19 = .ok (.getfield 7, 3) := by decide +kernel
theorem dX9_feed_22 : decode cX9_feed 22 = .ok (.bipush 9, 2) := by decide +kernel
theorem dX9_feed_24 : decode cX9_feed 24 = .ok (.iaload, 1) := by decide +kernel
theorem dX9_feed_25 : decode cX9_feed 25 = .ok (.iload_n 3, 1) := by decide +kernel
theorem dX9_feed_26 : decode cX9_feed 26 = .ok (.iadd, 1) := by decide +kernel
theorem dX9_feed_27 : decode cX9_feed 27 = .ok (.bipush 50, 2) := by decide +kernel
theorem dX9_feed_29 : decode cX9_feed 29 = .ok (.if_icmp .le 9, 3) := by decide +kernel
theorem dX9_feed_32 : decode cX9_feed 32 = .ok (.aload_n 0, 1) := by decide +kernel
theorem dX9_feed_33 : decode cX9_feed 33 = .ok (.iconst 4, 1) := by decide +kernel
theorem dX9_feed_34 : decode cX9_feed 34 = .ok (.invokevirtual 68, 3) := by decide +kernel
theorem dX9_feed_37 : decode cX9_feed 37 = .ok (.ireturn, 1) := by decide +kernel
theorem dX9_feed_38 : decode cX9_feed 38 = .ok (.iconst 0, 1) := by decide +kernel
theorem dX9_feed_39 : decode cX9_feed 39 = .ok (.istore 4, 2) := by decide +kernel
theorem dX9_feed_41 : decode cX9_feed 41 = .ok (.iload 4, 2) := by decide +kernel
theorem dX9_feed_43 : decode cX9_feed 43 = .ok (.iload_n 3, 1) := by decide +kernel
theorem dX9_feed_44 : decode cX9_feed 44 = .ok (.if_icmp .ge 48, 3) := by decide +kernel
theorem dX9_feed_47 : decode cX9_feed 47 = .ok (.aload_n 0, 1) := by decide +kernel
theorem dX9_feed_48 : decode cX9_feed 48 = .ok (.getfield 7, 3) := by decide +kernel
theorem dX9_feed_51 : decode cX9_feed 51 = .ok (.sipush 540, 3) := by decide +kernel
theorem dX9_feed_54 : decode cX9_feed 54 = .ok (.aload_n 0, 1) := by decide +kernel
theorem dX9_feed_55 : decode cX9_feed 55 = .ok (.getfield 7, 3) := by decide +kernel
theorem dX9_feed_58 : decode cX9_feed 58 = .ok (.bipush 9, 2) := by decide +kernel
theorem dX9_feed_60 : decode cX9_feed 60 = .ok (.iaload, 1) := by decide +kernel
theorem dX9_feed_61 : decode cX9_feed 61 = .ok (.iadd, 1) := by decide +kernel
theorem dX9_feed_62 : decode cX9_feed 62 = .ok (.lload_n 1, 1) := by decide +kernel
theorem dX9_feed_63 : decode cX9_feed 63 = .ok (.bipush 8, 2) := by decide +kernel
theorem dX9_feed_65 : decode cX9_feed 65 = .ok (.iload 4, 2) := by decide +kernel
theorem dX9_feed_67 : decode cX9_feed 67 = .ok (.imul, 1) := by decide +kernel
theorem dX9_feed_68 : decode cX9_feed 68 = .ok (.lshr, 1) := by decide +kernel
theorem dX9_feed_69 : decode cX9_feed 69 = .ok (.ldc2_w 236, 3) := by decide +kernel
theorem dX9_feed_72 : decode cX9_feed 72 = .ok (.land, 1) := by decide +kernel
theorem dX9_feed_73 : decode cX9_feed 73 = .ok (.l2i, 1) := by decide +kernel
theorem dX9_feed_74 : decode cX9_feed 74 = .ok (.iastore, 1) := by decide +kernel
theorem dX9_feed_75 : decode cX9_feed 75 = .ok (.aload_n 0, 1) := by decide +kernel
theorem dX9_feed_76 : decode cX9_feed 76 = .ok (.getfield 7, 3) := by decide +kernel
theorem dX9_feed_79 : decode cX9_feed 79 = .ok (.bipush 9, 2) := by decide +kernel
theorem dX9_feed_81 : decode cX9_feed 81 = .ok (.dup2, 1) := by decide +kernel
theorem dX9_feed_82 : decode cX9_feed 82 = .ok (.iaload, 1) := by decide +kernel
theorem dX9_feed_83 : decode cX9_feed 83 = .ok (.iconst 1, 1) := by decide +kernel
theorem dX9_feed_84 : decode cX9_feed 84 = .ok (.iadd, 1) := by decide +kernel
theorem dX9_feed_85 : decode cX9_feed 85 = .ok (.iastore, 1) := by decide +kernel
theorem dX9_feed_86 : decode cX9_feed 86 = .ok (.iinc 4 1, 3) := by decide +kernel
theorem dX9_feed_89 : decode cX9_feed 89 = .ok (.goto (-48), 3) := by decide +kernel
theorem dX9_feed_92 : decode cX9_feed 92 = .ok (.aload_n 0, 1) := by decide +kernel
theorem dX9_feed_93 : decode cX9_feed 93 = .ok (.getfield 7, 3) := by decide +kernel
theorem dX9_feed_96 : decode cX9_feed 96 = .ok (.bipush 9, 2) := by decide +kernel
theorem dX9_feed_98 : decode cX9_feed 98 = .ok (.iaload, 1) := by decide +kernel
theorem dX9_feed_99 : decode cX9_feed 99 = .ok (.ireturn, 1) := by decide +kernel
set_option maxRecDepth 20000 in
theorem ggX9_isUse_X9_in : GoodIn wsX9_isUse wsX9_in := goodIn_r _ [5] (by decide +kernel) (by decide +kernel)
set_option maxRecDepth 20000 in
theorem gX9_isUse_X9_in : GoodIn wsX9_isUse (va_wsS RX9 54 yX9_in wsX9_in) := goodIn_app (goodIn_of _ (by decide +kernel)) ggX9_isUse_X9_in
theorem dX9_isUse_0 : decode cX9_isUse 0 = .ok (.iload_n 0, 1) := by decide +kernel
theorem dX9_isUse_1 : decode cX9_isUse 1 = .ok (.i2l, 1) := by decide +kernel
theorem dX9_isUse_2 : decode cX9_isUse 2 = .ok (.lconst 0, 1) := by decide +kernel
theorem dX9_isUse_3 : decode cX9_isUse 3 = .ok (.ldc2_w 132, 3) := by decide +kernel
theorem dX9_isUse_6 : decode cX9_isUse 6 = .ok (.invokestatic 54, 3) := by decide +kernel
theorem dX9_isUse_9 : decode cX9_isUse 9 = .ok (.ireturn, 1) := by decide +kernel
set_option maxRecDepth 20000 in
theorem ggX9_text_X9_isUse : GoodIn wsX9_text wsX9_isUse := goodIn_r _ [6, 7, 8, 9, 5, 10] (by decide +kernel) (by decide +kernel)
set_option maxRecDepth 20000 in
theorem gX9_text_X9_isUse : GoodIn wsX9_text (va_wsS RX9 238 yX9_isUse wsX9_isUse) := goodIn_app (goodIn_of _ (by decide +kernel)) ggX9_text_X9_isUse
set_option maxRecDepth 20000 in
theorem ggX9_text_X9_finds : GoodIn wsX9_text wsX9_finds := goodIn_r _ [14, 15, 16, 69, 70, 71, 72, 73, 74, 75, 76, 77, 78, 79, 80, 81, 82, 83, 84, 85, 86, 87, 88, 89, 90, 91] (by decide +kernel) (by decide +kernel)
set_option maxRecDepth 20000 in
theorem gX9_text_X9_finds : GoodIn wsX9_text (wsV RX9 68 RX9 yX9_finds wsX9_finds) := goodIn_app (goodIn_of _ (by decide +kernel)) ggX9_text_X9_finds
set_option maxRecDepth 20000 in
theorem ggX9_text_X9_worked : GoodIn wsX9_text wsX9_worked := goodIn_r _ [20, 21, 22, 23, 2, 24, 25, 26, 27, 28, 5, 29, 30, 31, 32, 33, 34, 35, 36, 37, 38, 39, 40, 1, 41, 42, 43, 44, 45, 46, 47, 48, 49, 50, 51, 52, 53, 54, 55, 56, 57, 58, 59, 60, 61, 62, 63, 64, 65, 66, 67, 68, 8, 9, 10, 69, 70, 71, 72, 73, 74, 75, 76, 77, 78, 79, 80, 81, 82, 83, 84, 85, 86, 87, 88, 89, 90, 91] (by decide +kernel) (by decide +kernel)
set_option maxRecDepth 20000 in
theorem gX9_text_X9_worked : GoodIn wsX9_text (wsV RX9 241 RX9 yX9_worked wsX9_worked) := goodIn_app (goodIn_of _ (by decide +kernel)) ggX9_text_X9_worked
theorem dX9_text_0 : decode cX9_text 0 = .ok (.iload_n 1, 1) := by decide +kernel
theorem dX9_text_1 : decode cX9_text 1 = .ok (.invokestatic 238, 3) := by decide +kernel
theorem dX9_text_4 : decode cX9_text 4 = .ok (.ifCond .ne 9, 3) := by decide +kernel
theorem dX9_text_7 : decode cX9_text 7 = .ok (.aload_n 0, 1) := by decide +kernel
theorem dX9_text_8 : decode cX9_text 8 = .ok (.iconst 1, 1) := by decide +kernel
theorem dX9_text_9 : decode cX9_text 9 = .ok (.invokevirtual 68, 3) := by decide +kernel
theorem dX9_text_12 : decode cX9_text 12 = .ok (.ireturn, 1) := by decide +kernel
theorem dX9_text_13 : decode cX9_text 13 = .ok (.aload_n 0, 1) := by decide +kernel
theorem dX9_text_14 : decode cX9_text 14 = .ok (.getfield 7, 3) := by decide +kernel
theorem dX9_text_17 : decode cX9_text 17 = .ok (.bipush 9, 2) := by decide +kernel
theorem dX9_text_19 : decode cX9_text 19 = .ok (.iaload, 1) := by decide +kernel
theorem dX9_text_20 : decode cX9_text 20 = .ok (.istore_n 2, 1) := by decide +kernel
theorem dX9_text_21 : decode cX9_text 21 = .ok (.aload_n 0, 1) := by decide +kernel
theorem dX9_text_22 : decode cX9_text 22 = .ok (.getfield 7, 3) := by decide +kernel
theorem dX9_text_25 : decode cX9_text 25 = .ok (.bipush 9, 2) := by decide +kernel
theorem dX9_text_27 : decode cX9_text 27 = .ok (.iconst 0, 1) := by decide +kernel
theorem dX9_text_28 : decode cX9_text 28 = .ok (.iastore, 1) := by decide +kernel
theorem dX9_text_29 : decode cX9_text 29 = .ok (.aload_n 0, 1) := by decide +kernel
theorem dX9_text_30 : decode cX9_text 30 = .ok (.sipush 540, 3) := by decide +kernel
theorem dX9_text_33 : decode cX9_text 33 = .ok (.iload_n 2, 1) := by decide +kernel
theorem dX9_text_34 : decode cX9_text 34 = .ok (.iload_n 1, 1) := by decide +kernel
theorem dX9_text_35 : decode cX9_text 35 = .ok (.invokevirtual 241, 3) := by decide +kernel
theorem dX9_text_38 : decode cX9_text 38 = .ok (.istore_n 3, 1) := by decide +kernel
theorem dX9_text_39 : decode cX9_text 39 = .ok (.aload_n 0, 1) := by decide +kernel
theorem dX9_text_40 : decode cX9_text 40 = .ok (.getfield 187, 3) := by decide +kernel
theorem dX9_text_43 : decode cX9_text 43 = .ok (.ifCond .lt 11, 3) := by decide +kernel
theorem dX9_text_46 : decode cX9_text 46 = .ok (.bipush (-10), 2) := by decide +kernel
theorem dX9_text_48 : decode cX9_text 48 = .ok (.aload_n 0, 1) := by decide +kernel
theorem dX9_text_49 : decode cX9_text 49 = .ok (.getfield 187, 3) := by decide +kernel
theorem dX9_text_52 : decode cX9_text 52 = .ok (.isub, 1) := by decide +kernel
theorem dX9_text_53 : decode cX9_text 53 = .ok (.ireturn, 1) := by decide +kernel
theorem dX9_text_54 : decode cX9_text 54 = .ok (.aload_n 0, 1) := by decide +kernel
theorem dX9_text_55 : decode cX9_text 55 = .ok (.getfield 7, 3) := by decide +kernel
theorem dX9_text_58 : decode cX9_text 58 = .ok (.sipush 130, 3) := by decide +kernel
theorem dX9_text_61 : decode cX9_text 61 = .ok (.iload_n 1, 1) := by decide +kernel
theorem dX9_text_62 : decode cX9_text 62 = .ok (.iadd, 1) := by decide +kernel
theorem dX9_text_63 : decode cX9_text 63 = .ok (.iload_n 2, 1) := by decide +kernel
theorem dX9_text_64 : decode cX9_text 64 = .ok (.iastore, 1) := by decide +kernel
theorem dX9_text_65 : decode cX9_text 65 = .ok (.iconst 0, 1) := by decide +kernel
theorem dX9_text_66 : decode cX9_text 66 = .ok (.istore 4, 2) := by decide +kernel
theorem dX9_text_68 : decode cX9_text 68 = .ok (.iload 4, 2) := by decide +kernel
theorem dX9_text_70 : decode cX9_text 70 = .ok (.iload_n 2, 1) := by decide +kernel
theorem dX9_text_71 : decode cX9_text 71 = .ok (.if_icmp .ge 36, 3) := by decide +kernel
theorem dX9_text_74 : decode cX9_text 74 = .ok (.aload_n 0, 1) := by decide +kernel
theorem dX9_text_75 : decode cX9_text 75 = .ok (.getfield 7, 3) := by decide +kernel
theorem dX9_text_78 : decode cX9_text 78 = .ok (.sipush 140, 3) := by decide +kernel
theorem dX9_text_81 : decode cX9_text 81 = .ok (.bipush 50, 2) := by decide +kernel
theorem dX9_text_83 : decode cX9_text 83 = .ok (.iload_n 1, 1) := by decide +kernel
theorem dX9_text_84 : decode cX9_text 84 = .ok (.imul, 1) := by decide +kernel
theorem dX9_text_85 : decode cX9_text 85 = .ok (.iadd, 1) := by decide +kernel
theorem dX9_text_86 : decode cX9_text 86 = .ok (.iload 4, 2) := by decide +kernel
theorem dX9_text_88 : decode cX9_text 88 = .ok (.iadd, 1) := by decide +kernel
theorem dX9_text_89 : decode cX9_text 89 = .ok (.aload_n 0, 1) := by decide +kernel
theorem dX9_text_90 : decode cX9_text 90 = .ok (.getfield 7, 3) := by decide +kernel
theorem dX9_text_93 : decode cX9_text 93 = .ok (.sipush 540, 3) := by decide +kernel
theorem dX9_text_96 : decode cX9_text 96 = .ok (.iload 4, 2) := by decide +kernel
theorem dX9_text_98 : decode cX9_text 98 = .ok (.iadd, 1) := by decide +kernel
theorem dX9_text_99 : decode cX9_text 99 = .ok (.iaload, 1) := by decide +kernel
theorem dX9_text_100 : decode cX9_text 100 = .ok (.iastore, 1) := by decide +kernel
theorem dX9_text_101 : decode cX9_text 101 = .ok (.iinc 4 1, 3) := by decide +kernel
theorem dX9_text_104 : decode cX9_text 104 = .ok (.goto (-36), 3) := by decide +kernel
theorem dX9_text_107 : decode cX9_text 107 = .ok (.iconst 1, 1) := by decide +kernel
theorem dX9_text_108 : decode cX9_text 108 = .ok (.ireturn, 1) := by decide +kernel
set_option maxRecDepth 20000 in
theorem ggX9_gives_X9_worked : GoodIn wsX9_gives wsX9_worked := goodIn_r _ [6, 7, 8, 9, 10, 11, 12, 13, 14, 15, 5, 16, 17, 18, 19, 20, 21, 22, 23, 24, 25, 26, 27, 1, 28, 29, 30, 31, 32, 33, 34, 35, 36, 37, 38, 39, 40, 41, 42, 43, 44, 45, 46, 47, 48, 49, 50, 51, 52, 53, 54, 55, 56, 57, 58, 59, 60, 61, 62, 63, 64, 65, 66, 67, 68, 69, 70, 71, 72, 73, 74, 75, 76, 77, 78, 79, 80, 81] (by decide +kernel) (by decide +kernel)
set_option maxRecDepth 20000 in
theorem gX9_gives_X9_worked : GoodIn wsX9_gives (wsV RX9 241 RX9 yX9_worked wsX9_worked) := goodIn_app (goodIn_of _ (by decide +kernel)) ggX9_gives_X9_worked
theorem dX9_gives_0 : decode cX9_gives 0 = .ok (.aload_n 0, 1) := by decide +kernel
theorem dX9_gives_1 : decode cX9_gives 1 = .ok (.getfield 7, 3) := by decide +kernel
theorem dX9_gives_4 : decode cX9_gives 4 = .ok (.sipush 130, 3) := by decide +kernel
theorem dX9_gives_7 : decode cX9_gives 7 = .ok (.iload_n 1, 1) := by decide +kernel
theorem dX9_gives_8 : decode cX9_gives 8 = .ok (.iadd, 1) := by decide +kernel
theorem dX9_gives_9 : decode cX9_gives 9 = .ok (.iaload, 1) := by decide +kernel
theorem dX9_gives_10 : decode cX9_gives 10 = .ok (.ifCond .ne 7, 3) := by decide +kernel
theorem dX9_gives_13 : decode cX9_gives 13 = .ok (.iconst 0, 1) := by decide +kernel
theorem dX9_gives_14 : decode cX9_gives 14 = .ok (.goto 26, 3) := by decide +kernel
theorem dX9_gives_17 : decode cX9_gives 17 = .ok (.aload_n 0, 1) := by decide +kernel
theorem dX9_gives_18 : decode cX9_gives 18 = .ok (.sipush 140, 3) := by decide +kernel
theorem dX9_gives_21 : decode cX9_gives 21 = .ok (.bipush 50, 2) := by decide +kernel
theorem dX9_gives_23 : decode cX9_gives 23 = .ok (.iload_n 1, 1) := by decide +kernel
theorem dX9_gives_24 : decode cX9_gives 24 = .ok (.imul, 1) := by decide +kernel
theorem dX9_gives_25 : decode cX9_gives 25 = .ok (.iadd, 1) := by decide +kernel
theorem dX9_gives_26 : decode cX9_gives 26 = .ok (.aload_n 0, 1) := by decide +kernel
theorem dX9_gives_27 : decode cX9_gives 27 = .ok (.getfield 7, 3) := by decide +kernel
theorem dX9_gives_30 : decode cX9_gives 30 = .ok (.sipush 130, 3) := by decide +kernel
theorem dX9_gives_33 : decode cX9_gives 33 = .ok (.iload_n 1, 1) := by decide +kernel
theorem dX9_gives_34 : decode cX9_gives 34 = .ok (.iadd, 1) := by decide +kernel
theorem dX9_gives_35 : decode cX9_gives 35 = .ok (.iaload, 1) := by decide +kernel
theorem dX9_gives_36 : decode cX9_gives 36 = .ok (.iload_n 1, 1) := by decide +kernel
theorem dX9_gives_37 : decode cX9_gives 37 = .ok (.invokevirtual 241, 3) := by decide +kernel
theorem dX9_gives_40 : decode cX9_gives 40 = .ok (.ireturn, 1) := by decide +kernel
set_option maxRecDepth 20000 in
theorem ggX9_law_X9_isUse : GoodIn wsX9_law wsX9_isUse := goodIn_r _ [5, 6, 7, 8, 4, 9] (by decide +kernel) (by decide +kernel)
set_option maxRecDepth 20000 in
theorem gX9_law_X9_isUse : GoodIn wsX9_law (va_wsS RX9 238 yX9_isUse wsX9_isUse) := goodIn_app (goodIn_of _ (by decide +kernel)) ggX9_law_X9_isUse
set_option maxRecDepth 20000 in
theorem ggX9_law_X9_finds : GoodIn wsX9_law wsX9_finds := goodIn_r _ [13, 14, 15, 73, 74, 75, 76, 77, 78, 79, 80, 81, 82, 83, 84, 85, 86, 87, 88, 89, 90, 91, 92, 93, 94, 95] (by decide +kernel) (by decide +kernel)
set_option maxRecDepth 20000 in
theorem gX9_law_X9_finds : GoodIn wsX9_law (wsV RX9 68 RX9 yX9_finds wsX9_finds) := goodIn_app (goodIn_of _ (by decide +kernel)) ggX9_law_X9_finds
set_option maxRecDepth 20000 in
theorem ggX9_law_X9_gives : GoodIn wsX9_law wsX9_gives := goodIn_r _ [19, 20, 21, 22, 23, 4, 24, 25, 26, 27, 28, 29, 30, 31, 32, 33, 34, 35, 36, 37, 38, 39, 40, 41, 42, 43, 44, 45, 46, 47, 48, 49, 50, 51, 52, 53, 54, 55, 56, 57, 58, 59, 60, 61, 62, 1, 63, 64, 65, 66, 67, 68, 69, 70, 71, 72, 7, 8, 9, 73, 74, 75, 76, 77, 78, 79, 80, 81, 82, 83, 84, 85, 86, 87, 88, 89, 90, 91, 92, 93, 94, 95] (by decide +kernel) (by decide +kernel)
set_option maxRecDepth 20000 in
theorem gX9_law_X9_gives : GoodIn wsX9_law (wsV RX9 244 RX9 yX9_gives wsX9_gives) := goodIn_app (goodIn_of _ (by decide +kernel)) ggX9_law_X9_gives
theorem dX9_law_0 : decode cX9_law 0 = .ok (.iload_n 1, 1) := by decide +kernel
theorem dX9_law_1 : decode cX9_law 1 = .ok (.invokestatic 238, 3) := by decide +kernel
theorem dX9_law_4 : decode cX9_law 4 = .ok (.ifCond .ne 9, 3) := by decide +kernel
theorem dX9_law_7 : decode cX9_law 7 = .ok (.aload_n 0, 1) := by decide +kernel
theorem dX9_law_8 : decode cX9_law 8 = .ok (.iconst 1, 1) := by decide +kernel
theorem dX9_law_9 : decode cX9_law 9 = .ok (.invokevirtual 68, 3) := by decide +kernel
theorem dX9_law_12 : decode cX9_law 12 = .ok (.ireturn, 1) := by decide +kernel
theorem dX9_law_13 : decode cX9_law 13 = .ok (.aload_n 0, 1) := by decide +kernel
theorem dX9_law_14 : decode cX9_law 14 = .ok (.getfield 35, 3) := by decide +kernel
theorem dX9_law_17 : decode cX9_law 17 = .ok (.iconst 0, 1) := by decide +kernel
theorem dX9_law_18 : decode cX9_law 18 = .ok (.iload_n 2, 1) := by decide +kernel
theorem dX9_law_19 : decode cX9_law 19 = .ok (.iastore, 1) := by decide +kernel
theorem dX9_law_20 : decode cX9_law 20 = .ok (.aload_n 0, 1) := by decide +kernel
theorem dX9_law_21 : decode cX9_law 21 = .ok (.getfield 35, 3) := by decide +kernel
theorem dX9_law_24 : decode cX9_law 24 = .ok (.iconst 1, 1) := by decide +kernel
theorem dX9_law_25 : decode cX9_law 25 = .ok (.iload_n 3, 1) := by decide +kernel
theorem dX9_law_26 : decode cX9_law 26 = .ok (.iastore, 1) := by decide +kernel
theorem dX9_law_27 : decode cX9_law 27 = .ok (.aload_n 0, 1) := by decide +kernel
theorem dX9_law_28 : decode cX9_law 28 = .ok (.getfield 35, 3) := by decide +kernel
theorem dX9_law_31 : decode cX9_law 31 = .ok (.iconst 2, 1) := by decide +kernel
theorem dX9_law_32 : decode cX9_law 32 = .ok (.iconst 0, 1) := by decide +kernel
theorem dX9_law_33 : decode cX9_law 33 = .ok (.iastore, 1) := by decide +kernel
theorem dX9_law_34 : decode cX9_law 34 = .ok (.aload_n 0, 1) := by decide +kernel
theorem dX9_law_35 : decode cX9_law 35 = .ok (.getfield 35, 3) := by decide +kernel
theorem dX9_law_38 : decode cX9_law 38 = .ok (.iconst 3, 1) := by decide +kernel
theorem dX9_law_39 : decode cX9_law 39 = .ok (.iconst 0, 1) := by decide +kernel
theorem dX9_law_40 : decode cX9_law 40 = .ok (.iastore, 1) := by decide +kernel
theorem dX9_law_41 : decode cX9_law 41 = .ok (.aload_n 0, 1) := by decide +kernel
theorem dX9_law_42 : decode cX9_law 42 = .ok (.getfield 35, 3) := by decide +kernel
theorem dX9_law_45 : decode cX9_law 45 = .ok (.iconst 4, 1) := by decide +kernel
theorem dX9_law_46 : decode cX9_law 46 = .ok (.iconst 0, 1) := by decide +kernel
theorem dX9_law_47 : decode cX9_law 47 = .ok (.iastore, 1) := by decide +kernel
theorem dX9_law_48 : decode cX9_law 48 = .ok (.aload_n 0, 1) := by decide +kernel
theorem dX9_law_49 : decode cX9_law 49 = .ok (.iload_n 1, 1) := by decide +kernel
theorem dX9_law_50 : decode cX9_law 50 = .ok (.invokevirtual 244, 3) := by decide +kernel
theorem dX9_law_53 : decode cX9_law 53 = .ok (.ireturn, 1) := by decide +kernel
set_option maxRecDepth 20000 in
theorem ggX9_aim_X9_isPlace : GoodIn wsX9_aim wsX9_isPlace := goodIn_r _ [6, 1, 7, 8, 5, 9, 24, 25, 26, 27, 28, 29, 30, 31, 32, 33, 34, 35, 36, 37, 38, 39, 40, 41, 42, 43, 44, 45, 46] (by decide +kernel) (by decide +kernel)
set_option maxRecDepth 20000 in
theorem gX9_aim_X9_isPlace : GoodIn wsX9_aim (wsV RX9 58 RX9 yX9_isPlace wsX9_isPlace) := goodIn_app (goodIn_of _ (by decide +kernel)) ggX9_aim_X9_isPlace
set_option maxRecDepth 20000 in
theorem ggX9_aim_X9_areTwo : GoodIn wsX9_aim wsX9_areTwo := goodIn_r _ [13, 2, 3, 4, 5, 6, 1, 7, 8, 9, 24, 25, 26, 27, 28, 29, 30, 31, 32, 33, 34, 35, 36, 37, 38, 39, 40, 41, 42, 43, 44, 45, 46] (by decide +kernel) (by decide +kernel)
set_option maxRecDepth 20000 in
theorem gX9_aim_X9_areTwo : GoodIn wsX9_aim (wsV RX9 62 RX9 yX9_areTwo wsX9_areTwo) := goodIn_app (goodIn_of _ (by decide +kernel)) ggX9_aim_X9_areTwo
set_option maxRecDepth 20000 in
theorem ggX9_aim_X9_isPact : GoodIn wsX9_aim wsX9_isPact := goodIn_r _ [16, 17, 7, 8, 5, 9] (by decide +kernel) (by decide +kernel)
set_option maxRecDepth 20000 in
theorem gX9_aim_X9_isPact : GoodIn wsX9_aim (va_wsS RX9 111 yX9_isPact wsX9_isPact) := goodIn_app (goodIn_of _ (by decide +kernel)) ggX9_aim_X9_isPact
set_option maxRecDepth 20000 in
theorem ggX9_aim_X9_finds : GoodIn wsX9_aim wsX9_finds := goodIn_r _ [21, 22, 23, 24, 25, 26, 27, 28, 29, 30, 31, 32, 33, 34, 35, 36, 37, 38, 39, 40, 41, 42, 43, 44, 45, 46] (by decide +kernel) (by decide +kernel)
set_option maxRecDepth 20000 in
theorem gX9_aim_X9_finds : GoodIn wsX9_aim (wsV RX9 68 RX9 yX9_finds wsX9_finds) := goodIn_app (goodIn_of _ (by decide +kernel)) ggX9_aim_X9_finds
theorem dX9_aim_0 : decode cX9_aim 0 = .ok (.aload_n 0, 1) := by decide +kernel
theorem dX9_aim_1 : decode cX9_aim 1 = .ok (.iload_n 1, 1) := by decide +kernel
theorem dX9_aim_2 : decode cX9_aim 2 = .ok (.invokevirtual 58, 3) := by decide +kernel
theorem dX9_aim_5 : decode cX9_aim 5 = .ok (.ifCond .eq 34, 3) := by decide +kernel
theorem dX9_aim_8 : decode cX9_aim 8 = .ok (.iload_n 2, 1) := by decide +kernel
theorem dX9_aim_9 : decode cX9_aim 9 = .ok (.iconst (-1), 1) := by decide +kernel
theorem dX9_aim_10 : decode cX9_aim 10 = .ok (.if_icmp .eq 35, 3) := by decide +kernel
theorem dX9_aim_13 : decode cX9_aim 13 = .ok (.iload_n 2, 1) := by decide +kernel
theorem dX9_aim_14 : decode cX9_aim 14 = .ok (.ifCond .lt 25, 3) := by decide +kernel
theorem dX9_aim_17 : decode cX9_aim 17 = .ok (.aload_n 0, 1) := by decide +kernel
theorem dX9_aim_18 : decode cX9_aim 18 = .ok (.iload_n 1, 1) := by decide +kernel
theorem dX9_aim_19 : decode cX9_aim 19 = .ok (.iload_n 2, 1) := by decide +kernel
theorem dX9_aim_20 : decode cX9_aim 20 = .ok (.bipush 10, 2) := by decide +kernel
theorem dX9_aim_22 : decode cX9_aim 22 = .ok (.idiv, 1) := by decide +kernel
theorem dX9_aim_23 : decode cX9_aim 23 = .ok (.invokevirtual 62, 3) := by decide +kernel
theorem dX9_aim_26 : decode cX9_aim 26 = .ok (.ifCond .eq 13, 3) := by decide +kernel
theorem dX9_aim_29 : decode cX9_aim 29 = .ok (.iload_n 2, 1) := by decide +kernel
theorem dX9_aim_30 : decode cX9_aim 30 = .ok (.bipush 10, 2) := by decide +kernel
theorem dX9_aim_32 : decode cX9_aim 32 = .ok (.irem, 1) := by decide +kernel
theorem dX9_aim_33 : decode cX9_aim 33 = .ok (.invokestatic 111, 3) := by decide +kernel
theorem dX9_aim_36 : decode cX9_aim 36 = .ok (.ifCond .ne 9, 3) := by decide +kernel
theorem dX9_aim_39 : decode cX9_aim 39 = .ok (.aload_n 0, 1) := by decide +kernel
theorem dX9_aim_40 : decode cX9_aim 40 = .ok (.iconst 1, 1) := by decide +kernel
theorem dX9_aim_41 : decode cX9_aim 41 = .ok (.invokevirtual 68, 3) := by decide +kernel
theorem dX9_aim_44 : decode cX9_aim 44 = .ok (.ireturn, 1) := by decide +kernel
theorem dX9_aim_45 : decode cX9_aim 45 = .ok (.aload_n 0, 1) := by decide +kernel
theorem dX9_aim_46 : decode cX9_aim 46 = .ok (.getfield 7, 3) := by decide +kernel
theorem dX9_aim_49 : decode cX9_aim 49 = .ok (.bipush 60, 2) := by decide +kernel
theorem dX9_aim_51 : decode cX9_aim 51 = .ok (.iload_n 1, 1) := by decide +kernel
theorem dX9_aim_52 : decode cX9_aim 52 = .ok (.iadd, 1) := by decide +kernel
theorem dX9_aim_53 : decode cX9_aim 53 = .ok (.iload_n 2, 1) := by decide +kernel
theorem dX9_aim_54 : decode cX9_aim 54 = .ok (.iastore, 1) := by decide +kernel
theorem dX9_aim_55 : decode cX9_aim 55 = .ok (.iconst 1, 1) := by decide +kernel
theorem dX9_aim_56 : decode cX9_aim 56 = .ok (.ireturn, 1) := by decide +kernel
set_option maxRecDepth 20000 in
theorem ggX9_latestKind_X9_hasCome : GoodIn wsX9_latestKind wsX9_hasCome := goodIn_r _ [6, 7, 8, 9, 5, 10, 1, 11, 12, 13, 14, 15, 16, 17, 18, 19, 20, 21, 22, 23, 24, 25, 26, 27, 28, 29, 30, 31, 32, 33] (by decide +kernel) (by decide +kernel)
set_option maxRecDepth 20000 in
theorem gX9_latestKind_X9_hasCome : GoodIn wsX9_latestKind (wsV RX9 102 RX9 yX9_hasCome wsX9_hasCome) := goodIn_app (goodIn_of _ (by decide +kernel)) ggX9_latestKind_X9_hasCome
set_option maxRecDepth 20000 in
theorem ggX9_latestKind_X9_wo : GoodIn wsX9_latestKind wsX9_wo := goodIn_r _ [10, 1, 11, 12, 13, 14, 15, 16, 17, 18, 19, 20, 21, 22, 23, 24, 25, 26, 27, 28, 29, 30, 31, 32, 33] (by decide +kernel) (by decide +kernel)
set_option maxRecDepth 20000 in
theorem gX9_latestKind_X9_wo : GoodIn wsX9_latestKind (wsV RX9 99 RX9 yX9_wo wsX9_wo) := goodIn_app (goodIn_of _ (by decide +kernel)) ggX9_latestKind_X9_wo
theorem dX9_latestKind_0 : decode cX9_latestKind 0 = .ok (.iconst (-1), 1) := by decide +kernel
theorem dX9_latestKind_1 : decode cX9_latestKind 1 = .ok (.istore_n 3, 1) := by decide +kernel
theorem dX9_latestKind_2 : decode cX9_latestKind 2 = .ok (.iconst 0, 1) := by decide +kernel
theorem dX9_latestKind_3 : decode cX9_latestKind 3 = .ok (.istore 4, 2) := by decide +kernel
theorem dX9_latestKind_5 : decode cX9_latestKind 5 = .ok (.iload 4, 2) := by decide +kernel
theorem dX9_latestKind_7 : decode cX9_latestKind 7 = .ok (.aload_n 0, 1) := by decide +kernel
theorem dX9_latestKind_8 : decode cX9_latestKind 8 = .ok (.getfield 7, 3) := by decide +kernel
theorem dX9_latestKind_11 : decode cX9_latestKind 11 = .ok (.iconst 2, 1) := by decide +kernel
theorem dX9_latestKind_12 : decode cX9_latestKind 12 = .ok (.iaload, 1) := by decide +kernel
theorem dX9_latestKind_13 : decode cX9_latestKind 13 = .ok (.if_icmp .ge 53, 3) := by decide +kernel
theorem dX9_latestKind_16 : decode cX9_latestKind 16 = .ok (.aload_n 0, 1) := by decide +kernel
theorem dX9_latestKind_17 : decode cX9_latestKind 17 = .ok (.iload 4, 2) := by decide +kernel
theorem dX9_latestKind_19 : decode cX9_latestKind 19 = .ok (.iload_n 1, 1) := by decide +kernel
theorem dX9_latestKind_20 : decode cX9_latestKind 20 = .ok (.iload_n 2, 1) := by decide +kernel
theorem dX9_latestKind_21 : decode cX9_latestKind 21 = .ok (.aload_n 0, 1) := by decide +kernel
theorem dX9_latestKind_22 : decode cX9_latestKind 22 = .ok (.getfield 7, 3) := by decide +kernel
theorem dX9_latestKind_25 : decode cX9_latestKind 25 = .ok (.iconst 0, 1) := by decide +kernel
theorem dX9_latestKind_26 : decode cX9_latestKind 26 = .ok (.iaload, 1) := by decide +kernel
theorem dX9_latestKind_27 : decode cX9_latestKind 27 = .ok (.invokevirtual 102, 3) := by decide +kernel
theorem dX9_latestKind_30 : decode cX9_latestKind 30 = .ok (.ifCond .eq 28, 3) := by decide +kernel
theorem dX9_latestKind_33 : decode cX9_latestKind 33 = .ok (.iload_n 3, 1) := by decide +kernel
theorem dX9_latestKind_34 : decode cX9_latestKind 34 = .ok (.ifCond .lt 19, 3) := by decide +kernel
theorem dX9_latestKind_37 : decode cX9_latestKind 37 = .ok (.aload_n 0, 1) := by decide +kernel
theorem dX9_latestKind_38 : decode cX9_latestKind 38 = .ok (.iload 4, 2) := by decide +kernel
theorem dX9_latestKind_40 : decode cX9_latestKind 40 = .ok (.iconst 5, 1) := by decide +kernel
theorem dX9_latestKind_41 : decode cX9_latestKind 41 = .ok (.invokevirtual 99, 3) := by decide +kernel
theorem dX9_latestKind_44 : decode cX9_latestKind 44 = .ok (.aload_n 0, 1) := by decide +kernel
theorem dX9_latestKind_45 : decode cX9_latestKind 45 = .ok (.iload_n 3, 1) := by decide +kernel
theorem dX9_latestKind_46 : decode cX9_latestKind 46 = .ok (.iconst 5, 1) := by decide +kernel
theorem dX9_latestKind_47 : decode cX9_latestKind 47 = .ok (.invokevirtual 99, 3) := by decide +kernel
theorem dX9_latestKind_50 : decode cX9_latestKind 50 = .ok (.if_icmp .lt 8, 3) := by decide +kernel
theorem dX9_latestKind_53 : decode cX9_latestKind 53 = .ok (.iload 4, 2) := by decide +kernel
theorem dX9_latestKind_55 : decode cX9_latestKind 55 = .ok (.goto 4, 3) := by decide +kernel
theorem dX9_latestKind_58 : decode cX9_latestKind 58 = .ok (.iload_n 3, 1) := by decide +kernel
theorem dX9_latestKind_59 : decode cX9_latestKind 59 = .ok (.istore_n 3, 1) := by decide +kernel
theorem dX9_latestKind_60 : decode cX9_latestKind 60 = .ok (.iinc 4 1, 3) := by decide +kernel
theorem dX9_latestKind_63 : decode cX9_latestKind 63 = .ok (.goto (-58), 3) := by decide +kernel
theorem dX9_latestKind_66 : decode cX9_latestKind 66 = .ok (.iload_n 3, 1) := by decide +kernel
theorem dX9_latestKind_67 : decode cX9_latestKind 67 = .ok (.ifCond .ge 8, 3) := by decide +kernel
theorem dX9_latestKind_70 : decode cX9_latestKind 70 = .ok (.bipush 9, 2) := by decide +kernel
theorem dX9_latestKind_72 : decode cX9_latestKind 72 = .ok (.goto 9, 3) := by decide +kernel
theorem dX9_latestKind_75 : decode cX9_latestKind 75 = .ok (.aload_n 0, 1) := by decide +kernel
theorem dX9_latestKind_76 : decode cX9_latestKind 76 = .ok (.iload_n 3, 1) := by decide +kernel
theorem dX9_latestKind_77 : decode cX9_latestKind 77 = .ok (.iconst 0, 1) := by decide +kernel
theorem dX9_latestKind_78 : decode cX9_latestKind 78 = .ok (.invokevirtual 99, 3) := by decide +kernel
theorem dX9_latestKind_81 : decode cX9_latestKind 81 = .ok (.ireturn, 1) := by decide +kernel
set_option maxRecDepth 20000 in
theorem ggX9_acts_X9_stanceOf : GoodIn wsX9_acts wsX9_stanceOf := goodIn_r _ [8, 9, 10, 11, 12, 13, 7, 14, 15, 16, 17, 18, 1, 19, 20, 21, 22, 23, 24, 25, 26, 27, 28, 29, 30, 31, 32, 33, 34, 35, 36, 37, 38, 39, 40, 41, 42, 43, 44, 45, 46, 47, 48, 49, 50, 51, 52, 53, 54, 55, 56, 57, 58, 59, 60, 61, 62, 169, 170, 171, 172, 173, 174, 175, 176, 177, 178, 179, 180, 181, 182, 183, 184, 185, 186, 187, 188, 189, 190, 191] (by decide +kernel) (by decide +kernel)
set_option maxRecDepth 20000 in
theorem gX9_acts_X9_stanceOf : GoodIn wsX9_acts (wsV RX9 177 RX9 yX9_stanceOf wsX9_stanceOf) := goodIn_app (goodIn_of _ (by decide +kernel)) ggX9_acts_X9_stanceOf
set_option maxRecDepth 20000 in
theorem ggX9_acts_X9_manyCame : GoodIn wsX9_acts wsX9_manyCame := goodIn_r _ [66, 1, 59, 60, 61, 7, 62, 20, 21, 22, 23, 169, 170, 171, 172, 173, 174, 175, 176, 177, 178, 179, 180, 181, 182, 183, 184, 185, 186, 187, 188, 189, 190, 191] (by decide +kernel) (by decide +kernel)
set_option maxRecDepth 20000 in
theorem gX9_acts_X9_manyCame : GoodIn wsX9_acts (wsV RX9 145 RX9 yX9_manyCame wsX9_manyCame) := goodIn_app (goodIn_of _ (by decide +kernel)) ggX9_acts_X9_manyCame
set_option maxRecDepth 20000 in
theorem ggX9_acts_X9_latestKind : GoodIn wsX9_acts wsX9_latestKind := goodIn_r _ [70, 1, 59, 60, 61, 7, 62, 20, 21, 22, 23, 169, 170, 171, 172, 173, 174, 175, 176, 177, 178, 179, 180, 181, 182, 183, 184, 185, 186, 187, 188, 189, 190, 191] (by decide +kernel) (by decide +kernel)
set_option maxRecDepth 20000 in
theorem gX9_acts_X9_latestKind : GoodIn wsX9_acts (wsV RX9 247 RX9 yX9_latestKind wsX9_latestKind) := goodIn_app (goodIn_of _ (by decide +kernel)) ggX9_acts_X9_latestKind
set_option maxRecDepth 20000 in
theorem ggX9_acts_X9_gives : GoodIn wsX9_acts wsX9_gives := goodIn_r _ [74, 1, 75, 76, 77, 7, 78, 79, 80, 81, 82, 83, 84, 85, 86, 87, 88, 89, 90, 91, 92, 93, 94, 95, 96, 97, 98, 99, 100, 101, 102, 103, 104, 105, 106, 107, 108, 109, 110, 111, 112, 113, 114, 115, 116, 2, 117, 118, 119, 120, 121, 122, 123, 124, 125, 126, 24, 25, 26, 169, 170, 171, 172, 173, 174, 175, 176, 177, 178, 179, 180, 181, 182, 183, 184, 185, 186, 187, 188, 189, 190, 191] (by decide +kernel) (by decide +kernel)
set_option maxRecDepth 20000 in
theorem gX9_acts_X9_gives : GoodIn wsX9_acts (wsV RX9 244 RX9 yX9_gives wsX9_gives) := goodIn_app (goodIn_of _ (by decide +kernel)) ggX9_acts_X9_gives
set_option maxRecDepth 20000 in
theorem ggX9_acts_X9_in : GoodIn wsX9_acts wsX9_in := goodIn_r _ [26] (by decide +kernel) (by decide +kernel)
set_option maxRecDepth 20000 in
theorem gX9_acts_X9_in : GoodIn wsX9_acts (va_wsS RX9 54 yX9_in wsX9_in) := goodIn_app (goodIn_of _ (by decide +kernel)) ggX9_acts_X9_in
set_option maxRecDepth 20000 in
theorem ggX9_acts_X9_whyNot : GoodIn wsX9_acts wsX9_whyNot := goodIn_r _ [130, 3, 1, 24, 25, 7, 26, 131, 132, 133, 134, 135, 136, 137, 138, 139, 140, 141, 142, 143, 144, 145, 146, 147, 148, 149, 150, 151, 152, 153, 154, 155, 169, 170, 171, 172, 173, 174, 175, 176, 177, 178, 179, 180, 181, 182, 183, 184, 185, 186, 187, 188, 189, 190, 191] (by decide +kernel) (by decide +kernel)
set_option maxRecDepth 20000 in
theorem gX9_acts_X9_whyNot : GoodIn wsX9_acts (wsV RX9 122 RX9 yX9_whyNot wsX9_whyNot) := goodIn_app (goodIn_of _ (by decide +kernel)) ggX9_acts_X9_whyNot
set_option maxRecDepth 20000 in
theorem ggX9_acts_X9_sends : GoodIn wsX9_acts wsX9_sends := goodIn_r _ [159, 1, 160, 161, 162, 7, 163, 59, 60, 61, 62, 20, 21, 22, 23, 147, 148, 149, 150, 151, 152, 153, 154, 155, 164, 165, 166, 167, 168, 169, 170, 171, 172, 173, 174, 175, 176, 177, 178, 179, 180, 181, 182, 183, 184, 185, 186, 187, 188, 189, 190, 191] (by decide +kernel) (by decide +kernel)
set_option maxRecDepth 20000 in
theorem gX9_acts_X9_sends : GoodIn wsX9_acts (wsV RX9 125 RX9 yX9_sends wsX9_sends) := goodIn_app (goodIn_of _ (by decide +kernel)) ggX9_acts_X9_sends
theorem dX9_acts_0 : decode cX9_acts 0 = .ok (.aload_n 0, 1) := by decide +kernel
theorem dX9_acts_1 : decode cX9_acts 1 = .ok (.getfield 7, 3) := by decide +kernel
theorem dX9_acts_4 : decode cX9_acts 4 = .ok (.bipush 60, 2) := by decide +kernel
theorem dX9_acts_6 : decode cX9_acts 6 = .ok (.iload_n 1, 1) := by decide +kernel
theorem dX9_acts_7 : decode cX9_acts 7 = .ok (.iadd, 1) := by decide +kernel
theorem dX9_acts_8 : decode cX9_acts 8 = .ok (.iaload, 1) := by decide +kernel
theorem dX9_acts_9 : decode cX9_acts 9 = .ok (.bipush 10, 2) := by decide +kernel
theorem dX9_acts_11 : decode cX9_acts 11 = .ok (.idiv, 1) := by decide +kernel
theorem dX9_acts_12 : decode cX9_acts 12 = .ok (.istore_n 2, 1) := by decide +kernel
theorem dX9_acts_13 : decode cX9_acts 13 = .ok (.aload_n 0, 1) := by decide +kernel
theorem dX9_acts_14 : decode cX9_acts 14 = .ok (.getfield 7, 3) := by decide +kernel
theorem dX9_acts_17 : decode cX9_acts 17 = .ok (.bipush 60, 2) := by decide +kernel
theorem dX9_acts_19 : decode cX9_acts 19 = .ok (.iload_n 1, 1) := by decide +kernel
theorem dX9_acts_20 : decode cX9_acts 20 = .ok (.iadd, 1) := by decide +kernel
theorem dX9_acts_21 : decode cX9_acts 21 = .ok (.iaload, 1) := by decide +kernel
theorem dX9_acts_22 : decode cX9_acts 22 = .ok (.bipush 10, 2) := by decide +kernel
theorem dX9_acts_24 : decode cX9_acts 24 = .ok (.irem, 1) := by decide +kernel
theorem dX9_acts_25 : decode cX9_acts 25 = .ok (.istore_n 3, 1) := by decide +kernel
theorem dX9_acts_26 : decode cX9_acts 26 = .ok (.aload_n 0, 1) := by decide +kernel
theorem dX9_acts_27 : decode cX9_acts 27 = .ok (.getfield 35, 3) := by decide +kernel
theorem dX9_acts_30 : decode cX9_acts 30 = .ok (.iconst 0, 1) := by decide +kernel
theorem dX9_acts_31 : decode cX9_acts 31 = .ok (.aload_n 0, 1) := by decide +kernel
theorem dX9_acts_32 : decode cX9_acts 32 = .ok (.iload_n 1, 1) := by decide +kernel
theorem dX9_acts_33 : decode cX9_acts 33 = .ok (.iload_n 3, 1) := by decide +kernel
theorem dX9_acts_34 : decode cX9_acts 34 = .ok (.aload_n 0, 1) := by decide +kernel
theorem dX9_acts_35 : decode cX9_acts 35 = .ok (.getfield 7, 3) := by decide +kernel
theorem dX9_acts_38 : decode cX9_acts 38 = .ok (.iconst 0, 1) := by decide +kernel
theorem dX9_acts_39 : decode cX9_acts 39 = .ok (.iaload, 1) := by decide +kernel
theorem dX9_acts_40 : decode cX9_acts 40 = .ok (.invokevirtual 177, 3) := by decide +kernel
theorem dX9_acts_43 : decode cX9_acts 43 = .ok (.iastore, 1) := by decide +kernel
theorem dX9_acts_44 : decode cX9_acts 44 = .ok (.aload_n 0, 1) := by decide +kernel
theorem dX9_acts_45 : decode cX9_acts 45 = .ok (.getfield 35, 3) := by decide +kernel
theorem dX9_acts_48 : decode cX9_acts 48 = .ok (.iconst 1, 1) := by decide +kernel
theorem dX9_acts_49 : decode cX9_acts 49 = .ok (.aload_n 0, 1) := by decide +kernel
theorem dX9_acts_50 : decode cX9_acts 50 = .ok (.iload_n 1, 1) := by decide +kernel
theorem dX9_acts_51 : decode cX9_acts 51 = .ok (.iload_n 3, 1) := by decide +kernel
theorem dX9_acts_52 : decode cX9_acts 52 = .ok (.aload_n 0, 1) := by decide +kernel
theorem dX9_acts_53 : decode cX9_acts 53 = .ok (.getfield 7, 3) := by decide +kernel
theorem dX9_acts_56 : decode cX9_acts 56 = .ok (.iconst 0, 1) := by decide +kernel
theorem dX9_acts_57 : decode cX9_acts 57 = .ok (.iaload, 1) := by decide +kernel
theorem dX9_acts_58 : decode cX9_acts 58 = .ok (.invokevirtual 145, 3) := by decide +kernel
theorem dX9_acts_61 : decode cX9_acts 61 = .ok (.iastore, 1) := by decide +kernel
theorem dX9_acts_62 : decode cX9_acts 62 = .ok (.aload_n 0, 1) := by decide +kernel
theorem dX9_acts_63 : decode cX9_acts 63 = .ok (.getfield 35, 3) := by decide +kernel
theorem dX9_acts_66 : decode cX9_acts 66 = .ok (.iconst 2, 1) := by decide +kernel
theorem dX9_acts_67 : decode cX9_acts 67 = .ok (.aload_n 0, 1) := by decide +kernel
theorem dX9_acts_68 : decode cX9_acts 68 = .ok (.iload_n 1, 1) := by decide +kernel
theorem dX9_acts_69 : decode cX9_acts 69 = .ok (.iload_n 3, 1) := by decide +kernel
theorem dX9_acts_70 : decode cX9_acts 70 = .ok (.invokevirtual 247, 3) := by decide +kernel
theorem dX9_acts_73 : decode cX9_acts 73 = .ok (.iastore, 1) := by decide +kernel
theorem dX9_acts_74 : decode cX9_acts 74 = .ok (.aload_n 0, 1) := by decide +kernel
theorem dX9_acts_75 : decode cX9_acts 75 = .ok (.getfield 35, 3) := by decide +kernel
theorem dX9_acts_78 : decode cX9_acts 78 = .ok (.iconst 3, 1) := by decide +kernel
theorem dX9_acts_79 : decode cX9_acts 79 = .ok (.aload_n 0, 1) := by decide +kernel
theorem dX9_acts_80 : decode cX9_acts 80 = .ok (.getfield 7, 3) := by decide +kernel
theorem dX9_acts_83 : decode cX9_acts 83 = .ok (.iconst 0, 1) := by decide +kernel
theorem dX9_acts_84 : decode cX9_acts 84 = .ok (.iaload, 1) := by decide +kernel
theorem dX9_acts_85 : decode cX9_acts 85 = .ok (.iastore, 1) := by decide +kernel
theorem dX9_acts_86 : decode cX9_acts 86 = .ok (.aload_n 0, 1) := by decide +kernel
theorem dX9_acts_87 : decode cX9_acts 87 = .ok (.iload_n 1, 1) := by decide +kernel
theorem dX9_acts_88 : decode cX9_acts 88 = .ok (.invokevirtual 244, 3) := by decide +kernel
theorem dX9_acts_91 : decode cX9_acts 91 = .ok (.istore 4, 2) := by decide +kernel
theorem dX9_acts_93 : decode cX9_acts 93 = .ok (.iload 4, 2) := by decide +kernel
theorem dX9_acts_95 : decode cX9_acts 95 = .ok (.i2l, 1) := by decide +kernel
theorem dX9_acts_96 : decode cX9_acts 96 = .ok (.lconst 1, 1) := by decide +kernel
theorem dX9_acts_97 : decode cX9_acts 97 = .ok (.ldc2_w 106, 3) := by decide +kernel
theorem dX9_acts_100 : decode cX9_acts 100 = .ok (.invokestatic 54, 3) := by decide +kernel
theorem dX9_acts_103 : decode cX9_acts 103 = .ok (.ifCond .eq 32, 3) := by decide +kernel
theorem dX9_acts_106 : decode cX9_acts 106 = .ok (.aload_n 0, 1) := by decide +kernel
theorem dX9_acts_107 : decode cX9_acts 107 = .ok (.iload 4, 2) := by decide +kernel
theorem dX9_acts_109 : decode cX9_acts 109 = .ok (.bipush 10, 2) := by decide +kernel
theorem dX9_acts_111 : decode cX9_acts 111 = .ok (.iload_n 1, 1) := by decide +kernel
theorem dX9_acts_112 : decode cX9_acts 112 = .ok (.imul, 1) := by decide +kernel
theorem dX9_acts_113 : decode cX9_acts 113 = .ok (.iload_n 2, 1) := by decide +kernel
theorem dX9_acts_114 : decode cX9_acts 114 = .ok (.iadd, 1) := by decide +kernel
theorem dX9_acts_115 : decode cX9_acts 115 = .ok (.iload_n 3, 1) := by decide +kernel
theorem dX9_acts_116 : decode cX9_acts 116 = .ok (.invokevirtual 122, 3) := by decide +kernel
theorem dX9_acts_119 : decode cX9_acts 119 = .ok (.ifCond .ne 16, 3) := by decide +kernel
theorem dX9_acts_122 : decode cX9_acts 122 = .ok (.aload_n 0, 1) := by decide +kernel
theorem dX9_acts_123 : decode cX9_acts 123 = .ok (.iload 4, 2) := by decide +kernel
theorem dX9_acts_125 : decode cX9_acts 125 = .ok (.bipush 10, 2) := by decide +kernel
theorem dX9_acts_127 : decode cX9_acts 127 = .ok (.iload_n 1, 1) := by decide +kernel
theorem dX9_acts_128 : decode cX9_acts 128 = .ok (.imul, 1) := by decide +kernel
theorem dX9_acts_129 : decode cX9_acts 129 = .ok (.iload_n 2, 1) := by decide +kernel
theorem dX9_acts_130 : decode cX9_acts 130 = .ok (.iadd, 1) := by decide +kernel
theorem dX9_acts_131 : decode cX9_acts 131 = .ok (.iload_n 3, 1) := by decide +kernel
theorem dX9_acts_132 : decode cX9_acts 132 = .ok (.invokevirtual 125, 3) := by decide +kernel
theorem dX9_acts_135 : decode cX9_acts 135 = .ok (.return_, 1) := by decide +kernel
set_option maxRecDepth 20000 in
theorem ggX9_live_X9_in : GoodIn wsX9_live wsX9_in := goodIn_r _ [6] (by decide +kernel) (by decide +kernel)
set_option maxRecDepth 20000 in
theorem gX9_live_X9_in : GoodIn wsX9_live (va_wsS RX9 54 yX9_in wsX9_in) := goodIn_app (goodIn_of _ (by decide +kernel)) ggX9_live_X9_in
set_option maxRecDepth 20000 in
theorem ggX9_live_X9_finds : GoodIn wsX9_live wsX9_finds := goodIn_r _ [10, 11, 12, 180, 181, 182, 183, 184, 185, 186, 187, 188, 189, 190, 191, 192, 193, 194, 195, 196, 197, 198, 199, 200, 201, 202] (by decide +kernel) (by decide +kernel)
set_option maxRecDepth 20000 in
theorem gX9_live_X9_finds : GoodIn wsX9_live (wsV RX9 68 RX9 yX9_finds wsX9_finds) := goodIn_app (goodIn_of _ (by decide +kernel)) ggX9_live_X9_finds
set_option maxRecDepth 20000 in
theorem ggX9_live_X9_acts : GoodIn wsX9_live wsX9_acts := goodIn_r _ [16, 2, 17, 18, 19, 20, 21, 5, 22, 23, 24, 25, 26, 27, 28, 29, 30, 31, 32, 33, 34, 35, 36, 37, 3, 4, 6, 38, 39, 40, 41, 42, 43, 44, 45, 46, 47, 48, 49, 50, 51, 52, 53, 54, 55, 56, 57, 58, 59, 60, 61, 62, 63, 64, 65, 66, 67, 68, 69, 70, 71, 72, 73, 74, 75, 76, 77, 78, 79, 80, 81, 82, 83, 84, 85, 86, 87, 88, 89, 90, 91, 92, 93, 94, 95, 96, 97, 98, 99, 100, 101, 102, 103, 104, 105, 106, 107, 108, 109, 110, 111, 112, 113, 114, 115, 116, 117, 118, 119, 120, 121, 122, 123, 124, 125, 126, 127, 128, 129, 130, 131, 132, 133, 134, 135, 136, 137, 138, 139, 140, 141, 142, 143, 144, 145, 146, 147, 148, 149, 150, 151, 152, 153, 154, 155, 156, 157, 158, 159, 160, 161, 162, 163, 164, 165, 166, 167, 168, 169, 170, 171, 172, 173, 174, 175, 176, 177, 178, 179, 180, 181, 182, 183, 184, 185, 186, 187, 188, 189, 190, 191, 192, 193, 194, 195, 196, 197, 198, 199, 200, 201, 202] (by decide +kernel) (by decide +kernel)
set_option maxRecDepth 20000 in
theorem gX9_live_X9_acts : GoodIn wsX9_live (wsV RX9 252 RX9 yX9_acts wsX9_acts) := goodIn_app (goodIn_of _ (by decide +kernel)) ggX9_live_X9_acts
theorem dX9_live_0 : decode cX9_live 0 = .ok (.iload_n 1, 1) := by decide +kernel
theorem dX9_live_1 : decode cX9_live 1 = .ok (.i2l, 1) := by decide +kernel
theorem dX9_live_2 : decode cX9_live 2 = .ok (.lconst 1, 1) := by decide +kernel
theorem dX9_live_3 : decode cX9_live 3 = .ok (.ldc2_w 250, 3) := by decide +kernel
theorem dX9_live_6 : decode cX9_live 6 = .ok (.invokestatic 54, 3) := by decide +kernel
theorem dX9_live_9 : decode cX9_live 9 = .ok (.ifCond .ne 9, 3) := by decide +kernel
theorem dX9_live_12 : decode cX9_live 12 = .ok (.aload_n 0, 1) := by decide +kernel
theorem dX9_live_13 : decode cX9_live 13 = .ok (.iconst 1, 1) := by decide +kernel
theorem dX9_live_14 : decode cX9_live 14 = .ok (.invokevirtual 68, 3) := by decide +kernel
theorem dX9_live_17 : decode cX9_live 17 = .ok (.ireturn, 1) := by decide +kernel
theorem dX9_live_18 : decode cX9_live 18 = .ok (.aload_n 0, 1) := by decide +kernel
theorem dX9_live_19 : decode cX9_live 19 = .ok (.getfield 7, 3) := by decide +kernel
theorem dX9_live_22 : decode cX9_live 22 = .ok (.iconst 0, 1) := by decide +kernel
theorem dX9_live_23 : decode cX9_live 23 = .ok (.iaload, 1) := by decide +kernel
theorem dX9_live_24 : decode cX9_live 24 = .ok (.iload_n 1, 1) := by decide +kernel
theorem dX9_live_25 : decode cX9_live 25 = .ok (.iadd, 1) := by decide +kernel
theorem dX9_live_26 : decode cX9_live 26 = .ok (.sipush 399, 3) := by decide +kernel
theorem dX9_live_29 : decode cX9_live 29 = .ok (.if_icmp .le 9, 3) := by decide +kernel
theorem dX9_live_32 : decode cX9_live 32 = .ok (.aload_n 0, 1) := by decide +kernel
theorem dX9_live_33 : decode cX9_live 33 = .ok (.iconst 3, 1) := by decide +kernel
theorem dX9_live_34 : decode cX9_live 34 = .ok (.invokevirtual 68, 3) := by decide +kernel
theorem dX9_live_37 : decode cX9_live 37 = .ok (.ireturn, 1) := by decide +kernel
theorem dX9_live_38 : decode cX9_live 38 = .ok (.iconst 0, 1) := by decide +kernel
theorem dX9_live_39 : decode cX9_live 39 = .ok (.istore_n 2, 1) := by decide +kernel
theorem dX9_live_40 : decode cX9_live 40 = .ok (.iload_n 2, 1) := by decide +kernel
theorem dX9_live_41 : decode cX9_live 41 = .ok (.iload_n 1, 1) := by decide +kernel
theorem dX9_live_42 : decode cX9_live 42 = .ok (.if_icmp .ge 54, 3) := by decide +kernel
theorem dX9_live_45 : decode cX9_live 45 = .ok (.iconst 0, 1) := by decide +kernel
theorem dX9_live_46 : decode cX9_live 46 = .ok (.istore_n 3, 1) := by decide +kernel
theorem dX9_live_47 : decode cX9_live 47 = .ok (.iload_n 3, 1) := by decide +kernel
theorem dX9_live_48 : decode cX9_live 48 = .ok (.aload_n 0, 1) := by decide +kernel
theorem dX9_live_49 : decode cX9_live 49 = .ok (.getfield 7, 3) := by decide +kernel
theorem dX9_live_52 : decode cX9_live 52 = .ok (.iconst 1, 1) := by decide +kernel
theorem dX9_live_53 : decode cX9_live 53 = .ok (.iaload, 1) := by decide +kernel
theorem dX9_live_54 : decode cX9_live 54 = .ok (.if_icmp .ge 26, 3) := by decide +kernel
theorem dX9_live_57 : decode cX9_live 57 = .ok (.aload_n 0, 1) := by decide +kernel
theorem dX9_live_58 : decode cX9_live 58 = .ok (.getfield 7, 3) := by decide +kernel
theorem dX9_live_61 : decode cX9_live 61 = .ok (.bipush 60, 2) := by decide +kernel
theorem dX9_live_63 : decode cX9_live 63 = .ok (.iload_n 3, 1) := by decide +kernel
theorem dX9_live_64 : decode cX9_live 64 = .ok (.iadd, 1) := by decide +kernel
theorem dX9_live_65 : decode cX9_live 65 = .ok (.iaload, 1) := by decide +kernel
theorem dX9_live_66 : decode cX9_live 66 = .ok (.ifCond .lt 8, 3) := by decide +kernel
theorem dX9_live_69 : decode cX9_live 69 = .ok (.aload_n 0, 1) := by decide +kernel
theorem dX9_live_70 : decode cX9_live 70 = .ok (.iload_n 3, 1) := by decide +kernel
theorem dX9_live_71 : decode cX9_live 71 = .ok (.invokevirtual 252, 3) := by decide +kernel
theorem dX9_live_74 : decode cX9_live 74 = .ok (.iinc 3 1, 3) := by decide +kernel
theorem dX9_live_77 : decode cX9_live 77 = .ok (.goto (-30), 3) := by decide +kernel
theorem dX9_live_80 : decode cX9_live 80 = .ok (.aload_n 0, 1) := by decide +kernel
theorem dX9_live_81 : decode cX9_live 81 = .ok (.getfield 7, 3) := by decide +kernel
theorem dX9_live_84 : decode cX9_live 84 = .ok (.iconst 0, 1) := by decide +kernel
theorem dX9_live_85 : decode cX9_live 85 = .ok (.dup2, 1) := by decide +kernel
theorem dX9_live_86 : decode cX9_live 86 = .ok (.iaload, 1) := by decide +kernel
theorem dX9_live_87 : decode cX9_live 87 = .ok (.iconst 1, 1) := by decide +kernel
theorem dX9_live_88 : decode cX9_live 88 = .ok (.iadd, 1) := by decide +kernel
theorem dX9_live_89 : decode cX9_live 89 = .ok (.iastore, 1) := by decide +kernel
theorem dX9_live_90 : decode cX9_live 90 = .ok (.iinc 2 1, 3) := by decide +kernel
theorem dX9_live_93 : decode cX9_live 93 = .ok (.goto (-53), 3) := by decide +kernel
theorem dX9_live_96 : decode cX9_live 96 = .ok (.aload_n 0, 1) := by decide +kernel
theorem dX9_live_97 : decode cX9_live 97 = .ok (.getfield 7, 3) := by decide +kernel
theorem dX9_live_100 : decode cX9_live 100 = .ok (.iconst 0, 1) := by decide +kernel
theorem dX9_live_101 : decode cX9_live 101 = .ok (.iaload, 1) := by decide +kernel
theorem dX9_live_102 : decode cX9_live 102 = .ok (.ireturn, 1) := by decide +kernel
set_option maxRecDepth 20000 in
theorem ggX9_soon_X9_areFt : GoodIn wsX9_soon wsX9_areFt := goodIn_r _ [7, 8, 9, 10, 6, 11, 12, 13, 14, 15, 2, 16, 17, 18, 34, 35, 36, 37, 38, 39, 40, 41, 42, 43, 44, 45, 46, 47, 48, 49, 50, 51, 52, 53, 54, 55, 56] (by decide +kernel) (by decide +kernel)
set_option maxRecDepth 20000 in
theorem gX9_soon_X9_areFt : GoodIn wsX9_soon (wsV RX9 108 RX9 yX9_areFt wsX9_areFt) := goodIn_app (goodIn_of _ (by decide +kernel)) ggX9_soon_X9_areFt
set_option maxRecDepth 20000 in
theorem ggX9_soon_X9_in : GoodIn wsX9_soon wsX9_in := goodIn_r _ [18] (by decide +kernel) (by decide +kernel)
set_option maxRecDepth 20000 in
theorem gX9_soon_X9_in : GoodIn wsX9_soon (va_wsS RX9 54 yX9_in wsX9_in) := goodIn_app (goodIn_of _ (by decide +kernel)) ggX9_soon_X9_in
set_option maxRecDepth 20000 in
theorem ggX9_soon_X9_finds : GoodIn wsX9_soon wsX9_finds := goodIn_r _ [22, 23, 24, 34, 35, 36, 37, 38, 39, 40, 41, 42, 43, 44, 45, 46, 47, 48, 49, 50, 51, 52, 53, 54, 55, 56] (by decide +kernel) (by decide +kernel)
set_option maxRecDepth 20000 in
theorem gX9_soon_X9_finds : GoodIn wsX9_soon (wsV RX9 68 RX9 yX9_finds wsX9_finds) := goodIn_app (goodIn_of _ (by decide +kernel)) ggX9_soon_X9_finds
set_option maxRecDepth 20000 in
theorem ggX9_soon_X9_wayOf : GoodIn wsX9_soon wsX9_wayOf := goodIn_r _ [28, 29, 30, 31, 32, 6, 33, 2, 34, 35, 36, 37, 38, 39, 40, 41, 42, 43, 44, 45, 46, 47, 48, 49, 50, 51, 52, 53, 54, 55, 56] (by decide +kernel) (by decide +kernel)
set_option maxRecDepth 20000 in
theorem gX9_soon_X9_wayOf : GoodIn wsX9_soon (wsV RX9 77 RX9 yX9_wayOf wsX9_wayOf) := goodIn_app (goodIn_of _ (by decide +kernel)) ggX9_soon_X9_wayOf
theorem dX9_soon_0 : decode cX9_soon 0 = .ok (.aload_n 0, 1) := by decide +kernel
theorem dX9_soon_1 : decode cX9_soon 1 = .ok (.iload_n 1, 1) := by decide +kernel
theorem dX9_soon_2 : decode cX9_soon 2 = .ok (.invokevirtual 108, 3) := by decide +kernel
theorem dX9_soon_5 : decode cX9_soon 5 = .ok (.ifCond .eq 27, 3) := by decide +kernel
theorem dX9_soon_8 : decode cX9_soon 8 = .ok (.iload_n 2, 1) := by decide +kernel
theorem dX9_soon_9 : decode cX9_soon 9 = .ok (.i2l, 1) := by decide +kernel
theorem dX9_soon_10 : decode cX9_soon 10 = .ok (.lconst 1, 1) := by decide +kernel
theorem dX9_soon_11 : decode cX9_soon 11 = .ok (.ldc2_w 93, 3) := by decide +kernel
theorem dX9_soon_14 : decode cX9_soon 14 = .ok (.invokestatic 54, 3) := by decide +kernel
theorem dX9_soon_17 : decode cX9_soon 17 = .ok (.ifCond .eq 15, 3) := by decide +kernel
theorem dX9_soon_20 : decode cX9_soon 20 = .ok (.iload_n 3, 1) := by decide +kernel
theorem dX9_soon_21 : decode cX9_soon 21 = .ok (.i2l, 1) := by decide +kernel
theorem dX9_soon_22 : decode cX9_soon 22 = .ok (.lconst 0, 1) := by decide +kernel
theorem dX9_soon_23 : decode cX9_soon 23 = .ok (.ldc2_w 93, 3) := by decide +kernel
theorem dX9_soon_26 : decode cX9_soon 26 = .ok (.invokestatic 54, 3) := by decide +kernel
theorem dX9_soon_29 : decode cX9_soon 29 = .ok (.ifCond .ne 9, 3) := by decide +kernel
theorem dX9_soon_32 : decode cX9_soon 32 = .ok (.aload_n 0, 1) := by decide +kernel
theorem dX9_soon_33 : decode cX9_soon 33 = .ok (.iconst 1, 1) := by decide +kernel
theorem dX9_soon_34 : decode cX9_soon 34 = .ok (.invokevirtual 68, 3) := by decide +kernel
theorem dX9_soon_37 : decode cX9_soon 37 = .ok (.ireturn, 1) := by decide +kernel
theorem dX9_soon_38 : decode cX9_soon 38 = .ok (.aload_n 0, 1) := by decide +kernel
theorem dX9_soon_39 : decode cX9_soon 39 = .ok (.iload_n 1, 1) := by decide +kernel
theorem dX9_soon_40 : decode cX9_soon 40 = .ok (.bipush 10, 2) := by decide +kernel
theorem dX9_soon_42 : decode cX9_soon 42 = .ok (.idiv, 1) := by decide +kernel
theorem dX9_soon_43 : decode cX9_soon 43 = .ok (.iload_n 1, 1) := by decide +kernel
theorem dX9_soon_44 : decode cX9_soon 44 = .ok (.bipush 10, 2) := by decide +kernel
theorem dX9_soon_46 : decode cX9_soon 46 = .ok (.irem, 1) := by decide +kernel
theorem dX9_soon_47 : decode cX9_soon 47 = .ok (.invokevirtual 77, 3) := by decide +kernel
theorem dX9_soon_50 : decode cX9_soon 50 = .ok (.istore 4, 2) := by decide +kernel
theorem dX9_soon_52 : decode cX9_soon 52 = .ok (.aload_n 0, 1) := by decide +kernel
theorem dX9_soon_53 : decode cX9_soon 53 = .ok (.getfield 7, 3) := by decide +kernel
theorem dX9_soon_56 : decode cX9_soon 56 = .ok (.iconst 0, 1) := by decide +kernel
theorem dX9_soon_57 : decode cX9_soon 57 = .ok (.iaload, 1) := by decide +kernel
theorem dX9_soon_58 : decode cX9_soon 58 = .ok (.iload_n 2, 1) := by decide +kernel
theorem dX9_soon_59 : decode cX9_soon 59 = .ok (.iload 4, 2) := by decide +kernel
theorem dX9_soon_61 : decode cX9_soon 61 = .ok (.imul, 1) := by decide +kernel
theorem dX9_soon_62 : decode cX9_soon 62 = .ok (.iadd, 1) := by decide +kernel
theorem dX9_soon_63 : decode cX9_soon 63 = .ok (.iload_n 3, 1) := by decide +kernel
theorem dX9_soon_64 : decode cX9_soon 64 = .ok (.iadd, 1) := by decide +kernel
theorem dX9_soon_65 : decode cX9_soon 65 = .ok (.istore 5, 2) := by decide +kernel
theorem dX9_soon_67 : decode cX9_soon 67 = .ok (.iload 4, 2) := by decide +kernel
theorem dX9_soon_69 : decode cX9_soon 69 = .ok (.ifCond .lt 11, 3) := by decide +kernel
theorem dX9_soon_72 : decode cX9_soon 72 = .ok (.iload 5, 2) := by decide +kernel
theorem dX9_soon_74 : decode cX9_soon 74 = .ok (.sipush 399, 3) := by decide +kernel
theorem dX9_soon_77 : decode cX9_soon 77 = .ok (.if_icmp .le 11, 3) := by decide +kernel
theorem dX9_soon_80 : decode cX9_soon 80 = .ok (.aload_n 0, 1) := by decide +kernel
theorem dX9_soon_81 : decode cX9_soon 81 = .ok (.iconst 2, 1) := by decide +kernel
theorem dX9_soon_82 : decode cX9_soon 82 = .ok (.invokevirtual 68, 3) := by decide +kernel
theorem dX9_soon_85 : decode cX9_soon 85 = .ok (.goto 5, 3) := by decide +kernel
theorem dX9_soon_88 : decode cX9_soon 88 = .ok (.iload 5, 2) := by decide +kernel
theorem dX9_soon_90 : decode cX9_soon 90 = .ok (.ireturn, 1) := by decide +kernel
theorem dX9_power_0 : decode cX9_power 0 = .ok (.lconst 1, 1) := by decide +kernel
theorem dX9_power_1 : decode cX9_power 1 = .ok (.lstore_n 3, 1) := by decide +kernel
theorem dX9_power_2 : decode cX9_power 2 = .ok (.iconst 0, 1) := by decide +kernel
theorem dX9_power_3 : decode cX9_power 3 = .ok (.istore 5, 2) := by decide +kernel
theorem dX9_power_5 : decode cX9_power 5 = .ok (.iload 5, 2) := by decide +kernel
theorem dX9_power_7 : decode cX9_power 7 = .ok (.iload_n 2, 1) := by decide +kernel
theorem dX9_power_8 : decode cX9_power 8 = .ok (.if_icmp .ge 13, 3) := by decide +kernel
theorem dX9_power_11 : decode cX9_power 11 = .ok (.lload_n 3, 1) := by decide +kernel
theorem dX9_power_12 : decode cX9_power 12 = .ok (.lload_n 0, 1) := by decide +kernel
theorem dX9_power_13 : decode cX9_power 13 = .ok (.lmul, 1) := by decide +kernel
theorem dX9_power_14 : decode cX9_power 14 = .ok (.lstore_n 3, 1) := by decide +kernel
theorem dX9_power_15 : decode cX9_power 15 = .ok (.iinc 5 1, 3) := by decide +kernel
theorem dX9_power_18 : decode cX9_power 18 = .ok (.goto (-13), 3) := by decide +kernel
theorem dX9_power_21 : decode cX9_power 21 = .ok (.lload_n 3, 1) := by decide +kernel
theorem dX9_power_22 : decode cX9_power 22 = .ok (.lreturn, 1) := by decide +kernel
theorem dX9_common_0 : decode cX9_common 0 = .ok (.lload_n 0, 1) := by decide +kernel
theorem dX9_common_1 : decode cX9_common 1 = .ok (.lstore 4, 2) := by decide +kernel
theorem dX9_common_3 : decode cX9_common 3 = .ok (.lload_n 2, 1) := by decide +kernel
theorem dX9_common_4 : decode cX9_common 4 = .ok (.lstore 6, 2) := by decide +kernel
theorem dX9_common_6 : decode cX9_common 6 = .ok (.lload 6, 2) := by decide +kernel
theorem dX9_common_8 : decode cX9_common 8 = .ok (.lconst 0, 1) := by decide +kernel
theorem dX9_common_9 : decode cX9_common 9 = .ok (.lcmp, 1) := by decide +kernel
theorem dX9_common_10 : decode cX9_common 10 = .ok (.ifCond .eq 21, 3) := by decide +kernel
theorem dX9_common_13 : decode cX9_common 13 = .ok (.lload 4, 2) := by decide +kernel
theorem dX9_common_15 : decode cX9_common 15 = .ok (.lload 6, 2) := by decide +kernel
theorem dX9_common_17 : decode cX9_common 17 = .ok (.lrem, 1) := by decide +kernel
theorem dX9_common_18 : decode cX9_common 18 = .ok (.lstore 8, 2) := by decide +kernel
theorem dX9_common_20 : decode cX9_common 20 = .ok (.lload 6, 2) := by decide +kernel
theorem dX9_common_22 : decode cX9_common 22 = .ok (.lstore 4, 2) := by decide +kernel
theorem dX9_common_24 : decode cX9_common 24 = .ok (.lload 8, 2) := by decide +kernel
theorem dX9_common_26 : decode cX9_common 26 = .ok (.lstore 6, 2) := by decide +kernel
theorem dX9_common_28 : decode cX9_common 28 = .ok (.goto (-22), 3) := by decide +kernel
theorem dX9_common_31 : decode cX9_common 31 = .ok (.lload 4, 2) := by decide +kernel
theorem dX9_common_33 : decode cX9_common 33 = .ok (.lconst 0, 1) := by decide +kernel
theorem dX9_common_34 : decode cX9_common 34 = .ok (.lcmp, 1) := by decide +kernel
theorem dX9_common_35 : decode cX9_common 35 = .ok (.ifCond .ge 9, 3) := by decide +kernel
theorem dX9_common_38 : decode cX9_common 38 = .ok (.lload 4, 2) := by decide +kernel
theorem dX9_common_40 : decode cX9_common 40 = .ok (.lneg, 1) := by decide +kernel
theorem dX9_common_41 : decode cX9_common 41 = .ok (.goto 5, 3) := by decide +kernel
theorem dX9_common_44 : decode cX9_common 44 = .ok (.lload 4, 2) := by decide +kernel
theorem dX9_common_46 : decode cX9_common 46 = .ok (.lreturn, 1) := by decide +kernel
set_option maxRecDepth 20000 in
theorem ggX9_oddsUp_X9_power : GoodIn wsX9_oddsUp wsX9_power := goodIn_r _ [5] (by decide +kernel) (by decide +kernel)
set_option maxRecDepth 20000 in
theorem gX9_oddsUp_X9_power : GoodIn wsX9_oddsUp (va_wsS RX9 255 yX9_power wsX9_power) := goodIn_app (goodIn_of _ (by decide +kernel)) ggX9_oddsUp_X9_power
theorem dX9_oddsUp_0 : decode cX9_oddsUp 0 = .ok (.aload_n 0, 1) := by decide +kernel
theorem dX9_oddsUp_1 : decode cX9_oddsUp 1 = .ok (.getfield 7, 3) := by decide +kernel
theorem dX9_oddsUp_4 : decode cX9_oddsUp 4 = .ok (.bipush 8, 2) := by decide +kernel
theorem dX9_oddsUp_6 : decode cX9_oddsUp 6 = .ok (.iaload, 1) := by decide +kernel
theorem dX9_oddsUp_7 : decode cX9_oddsUp 7 = .ok (.i2l, 1) := by decide +kernel
theorem dX9_oddsUp_8 : decode cX9_oddsUp 8 = .ok (.iload_n 2, 1) := by decide +kernel
theorem dX9_oddsUp_9 : decode cX9_oddsUp 9 = .ok (.invokestatic 255, 3) := by decide +kernel
theorem dX9_oddsUp_12 : decode cX9_oddsUp 12 = .ok (.aload_n 0, 1) := by decide +kernel
theorem dX9_oddsUp_13 : decode cX9_oddsUp 13 = .ok (.getfield 7, 3) := by decide +kernel
theorem dX9_oddsUp_16 : decode cX9_oddsUp 16 = .ok (.bipush 7, 2) := by decide +kernel
theorem dX9_oddsUp_18 : decode cX9_oddsUp 18 = .ok (.iaload, 1) := by decide +kernel
theorem dX9_oddsUp_19 : decode cX9_oddsUp 19 = .ok (.i2l, 1) := by decide +kernel
theorem dX9_oddsUp_20 : decode cX9_oddsUp 20 = .ok (.iload_n 2, 1) := by decide +kernel
theorem dX9_oddsUp_21 : decode cX9_oddsUp 21 = .ok (.invokestatic 255, 3) := by decide +kernel
theorem dX9_oddsUp_24 : decode cX9_oddsUp 24 = .ok (.lsub, 1) := by decide +kernel
theorem dX9_oddsUp_25 : decode cX9_oddsUp 25 = .ok (.iload_n 1, 1) := by decide +kernel
theorem dX9_oddsUp_26 : decode cX9_oddsUp 26 = .ok (.invokestatic 255, 3) := by decide +kernel
theorem dX9_oddsUp_29 : decode cX9_oddsUp 29 = .ok (.lreturn, 1) := by decide +kernel
set_option maxRecDepth 20000 in
theorem ggX9_oddsLow_X9_power : GoodIn wsX9_oddsLow wsX9_power := goodIn_r _ [5] (by decide +kernel) (by decide +kernel)
set_option maxRecDepth 20000 in
theorem gX9_oddsLow_X9_power : GoodIn wsX9_oddsLow (va_wsS RX9 255 yX9_power wsX9_power) := goodIn_app (goodIn_of _ (by decide +kernel)) ggX9_oddsLow_X9_power
theorem dX9_oddsLow_0 : decode cX9_oddsLow 0 = .ok (.aload_n 0, 1) := by decide +kernel
theorem dX9_oddsLow_1 : decode cX9_oddsLow 1 = .ok (.getfield 7, 3) := by decide +kernel
theorem dX9_oddsLow_4 : decode cX9_oddsLow 4 = .ok (.bipush 8, 2) := by decide +kernel
theorem dX9_oddsLow_6 : decode cX9_oddsLow 6 = .ok (.iaload, 1) := by decide +kernel
theorem dX9_oddsLow_7 : decode cX9_oddsLow 7 = .ok (.i2l, 1) := by decide +kernel
theorem dX9_oddsLow_8 : decode cX9_oddsLow 8 = .ok (.iload_n 2, 1) := by decide +kernel
theorem dX9_oddsLow_9 : decode cX9_oddsLow 9 = .ok (.iload_n 1, 1) := by decide +kernel
theorem dX9_oddsLow_10 : decode cX9_oddsLow 10 = .ok (.imul, 1) := by decide +kernel
theorem dX9_oddsLow_11 : decode cX9_oddsLow 11 = .ok (.invokestatic 255, 3) := by decide +kernel
theorem dX9_oddsLow_14 : decode cX9_oddsLow 14 = .ok (.lreturn, 1) := by decide +kernel
set_option maxRecDepth 20000 in
theorem ggX9_odds_X9_in : GoodIn wsX9_odds wsX9_in := goodIn_r _ [5] (by decide +kernel) (by decide +kernel)
set_option maxRecDepth 20000 in
theorem gX9_odds_X9_in : GoodIn wsX9_odds (va_wsS RX9 54 yX9_in wsX9_in) := goodIn_app (goodIn_of _ (by decide +kernel)) ggX9_odds_X9_in
set_option maxRecDepth 20000 in
theorem ggX9_odds_X9_finds : GoodIn wsX9_odds wsX9_finds := goodIn_r _ [9, 10, 11, 27, 28, 29, 30, 31, 32, 33, 34, 35, 36, 37, 38, 39, 40, 41, 42, 43, 44, 45, 46, 47, 48, 49] (by decide +kernel) (by decide +kernel)
set_option maxRecDepth 20000 in
theorem gX9_odds_X9_finds : GoodIn wsX9_odds (wsV RX9 68 RX9 yX9_finds wsX9_finds) := goodIn_app (goodIn_of _ (by decide +kernel)) ggX9_odds_X9_finds
set_option maxRecDepth 20000 in
theorem ggX9_odds_X9_oddsUp : GoodIn wsX9_odds wsX9_oddsUp := goodIn_r _ [15, 16, 17, 18, 4, 19, 27, 28, 29, 30, 31, 32, 33, 34, 35, 36, 37, 38, 39, 40, 41, 42, 43, 44, 45, 46, 47, 48, 49] (by decide +kernel) (by decide +kernel)
set_option maxRecDepth 20000 in
theorem gX9_odds_X9_oddsUp : GoodIn wsX9_odds (wsV RX9 261 RX9 yX9_oddsUp wsX9_oddsUp) := goodIn_app (goodIn_of _ (by decide +kernel)) ggX9_odds_X9_oddsUp
set_option maxRecDepth 20000 in
theorem ggX9_odds_X9_oddsLow : GoodIn wsX9_odds wsX9_oddsLow := goodIn_r _ [23, 16, 17, 18, 4, 19, 27, 28, 29, 30, 31, 32, 33, 34, 35, 36, 37, 38, 39, 40, 41, 42, 43, 44, 45, 46, 47, 48, 49] (by decide +kernel) (by decide +kernel)
set_option maxRecDepth 20000 in
theorem gX9_odds_X9_oddsLow : GoodIn wsX9_odds (wsV RX9 265 RX9 yX9_oddsLow wsX9_oddsLow) := goodIn_app (goodIn_of _ (by decide +kernel)) ggX9_odds_X9_oddsLow
set_option maxRecDepth 20000 in
theorem ggX9_odds_X9_common : GoodIn wsX9_odds wsX9_common := goodIn_r _ [26] (by decide +kernel) (by decide +kernel)
set_option maxRecDepth 20000 in
theorem gX9_odds_X9_common : GoodIn wsX9_odds (va_wsS RX9 268 yX9_common wsX9_common) := goodIn_app (goodIn_of _ (by decide +kernel)) ggX9_odds_X9_common
theorem dX9_odds_0 : decode cX9_odds 0 = .ok (.iload_n 1, 1) := by decide +kernel
theorem dX9_odds_1 : decode cX9_odds 1 = .ok (.i2l, 1) := by decide +kernel
theorem dX9_odds_2 : decode cX9_odds 2 = .ok (.lconst 1, 1) := by decide +kernel
theorem dX9_odds_3 : decode cX9_odds 3 = .ok (.ldc2_w 259, 3) := by decide +kernel
theorem dX9_odds_6 : decode cX9_odds 6 = .ok (.invokestatic 54, 3) := by decide +kernel
theorem dX9_odds_9 : decode cX9_odds 9 = .ok (.ifCond .eq 25, 3) := by decide +kernel
theorem dX9_odds_12 : decode cX9_odds 12 = .ok (.iload_n 2, 1) := by decide +kernel
theorem dX9_odds_13 : decode cX9_odds 13 = .ok (.i2l, 1) := by decide +kernel
theorem dX9_odds_14 : decode cX9_odds 14 = .ok (.lconst 1, 1) := by decide +kernel
theorem dX9_odds_15 : decode cX9_odds 15 = .ok (.ldc2_w 259, 3) := by decide +kernel
theorem dX9_odds_18 : decode cX9_odds 18 = .ok (.invokestatic 54, 3) := by decide +kernel
theorem dX9_odds_21 : decode cX9_odds 21 = .ok (.ifCond .eq 13, 3) := by decide +kernel
theorem dX9_odds_24 : decode cX9_odds 24 = .ok (.iload_n 3, 1) := by decide +kernel
theorem dX9_odds_25 : decode cX9_odds 25 = .ok (.i2l, 1) := by decide +kernel
theorem dX9_odds_26 : decode cX9_odds 26 = .ok (.lconst 0, 1) := by decide +kernel
theorem dX9_odds_27 : decode cX9_odds 27 = .ok (.lconst 1, 1) := by decide +kernel
theorem dX9_odds_28 : decode cX9_odds 28 = .ok (.invokestatic 54, 3) := by decide +kernel
theorem dX9_odds_31 : decode cX9_odds 31 = .ok (.ifCond .ne 10, 3) := by decide +kernel
theorem dX9_odds_34 : decode cX9_odds 34 = .ok (.aload_n 0, 1) := by decide +kernel
theorem dX9_odds_35 : decode cX9_odds 35 = .ok (.iconst 1, 1) := by decide +kernel
theorem dX9_odds_36 : decode cX9_odds 36 = .ok (.invokevirtual 68, 3) := by decide +kernel
theorem dX9_odds_39 : decode cX9_odds 39 = .ok (.i2l, 1) := by decide +kernel
theorem dX9_odds_40 : decode cX9_odds 40 = .ok (.lreturn, 1) := by decide +kernel
theorem dX9_odds_41 : decode cX9_odds 41 = .ok (.iload_n 3, 1) := by decide +kernel
theorem dX9_odds_42 : decode cX9_odds 42 = .ok (.ifCond .ne 12, 3) := by decide +kernel
theorem dX9_odds_45 : decode cX9_odds 45 = .ok (.aload_n 0, 1) := by decide +kernel
theorem dX9_odds_46 : decode cX9_odds 46 = .ok (.iload_n 1, 1) := by decide +kernel
theorem dX9_odds_47 : decode cX9_odds 47 = .ok (.iload_n 2, 1) := by decide +kernel
theorem dX9_odds_48 : decode cX9_odds 48 = .ok (.invokevirtual 261, 3) := by decide +kernel
theorem dX9_odds_51 : decode cX9_odds 51 = .ok (.goto 9, 3) := by decide +kernel
theorem dX9_odds_54 : decode cX9_odds 54 = .ok (.aload_n 0, 1) := by decide +kernel
theorem dX9_odds_55 : decode cX9_odds 55 = .ok (.iload_n 1, 1) := by decide +kernel
theorem dX9_odds_56 : decode cX9_odds 56 = .ok (.iload_n 2, 1) := by decide +kernel
theorem dX9_odds_57 : decode cX9_odds 57 = .ok (.invokevirtual 265, 3) := by decide +kernel
theorem dX9_odds_60 : decode cX9_odds 60 = .ok (.aload_n 0, 1) := by decide +kernel
theorem dX9_odds_61 : decode cX9_odds 61 = .ok (.iload_n 1, 1) := by decide +kernel
theorem dX9_odds_62 : decode cX9_odds 62 = .ok (.iload_n 2, 1) := by decide +kernel
theorem dX9_odds_63 : decode cX9_odds 63 = .ok (.invokevirtual 261, 3) := by decide +kernel
theorem dX9_odds_66 : decode cX9_odds 66 = .ok (.aload_n 0, 1) := by decide +kernel
theorem dX9_odds_67 : decode cX9_odds 67 = .ok (.iload_n 1, 1) := by decide +kernel
theorem dX9_odds_68 : decode cX9_odds 68 = .ok (.iload_n 2, 1) := by decide +kernel
theorem dX9_odds_69 : decode cX9_odds 69 = .ok (.invokevirtual 265, 3) := by decide +kernel
theorem dX9_odds_72 : decode cX9_odds 72 = .ok (.invokestatic 268, 3) := by decide +kernel
theorem dX9_odds_75 : decode cX9_odds 75 = .ok (.ldiv, 1) := by decide +kernel
theorem dX9_odds_76 : decode cX9_odds 76 = .ok (.lreturn, 1) := by decide +kernel
set_option maxRecDepth 20000 in
theorem ggX9_enough_X9_in : GoodIn wsX9_enough wsX9_in := goodIn_r _ [6] (by decide +kernel) (by decide +kernel)
set_option maxRecDepth 20000 in
theorem gX9_enough_X9_in : GoodIn wsX9_enough (va_wsS RX9 54 yX9_in wsX9_in) := goodIn_app (goodIn_of _ (by decide +kernel)) ggX9_enough_X9_in
set_option maxRecDepth 20000 in
theorem ggX9_enough_X9_finds : GoodIn wsX9_enough wsX9_finds := goodIn_r _ [10, 11, 12, 25, 26, 27, 28, 29, 30, 31, 32, 33, 34, 35, 36, 37, 38, 39, 40, 41, 42, 43, 44, 45, 46, 47] (by decide +kernel) (by decide +kernel)
set_option maxRecDepth 20000 in
theorem gX9_enough_X9_finds : GoodIn wsX9_enough (wsV RX9 68 RX9 yX9_finds wsX9_finds) := goodIn_app (goodIn_of _ (by decide +kernel)) ggX9_enough_X9_finds
set_option maxRecDepth 20000 in
theorem ggX9_enough_X9_oddsUp : GoodIn wsX9_enough wsX9_oddsUp := goodIn_r _ [16, 17, 18, 19, 5, 20, 25, 26, 27, 28, 29, 30, 31, 32, 33, 34, 35, 36, 37, 38, 39, 40, 41, 42, 43, 44, 45, 46, 47] (by decide +kernel) (by decide +kernel)
set_option maxRecDepth 20000 in
theorem gX9_enough_X9_oddsUp : GoodIn wsX9_enough (wsV RX9 261 RX9 yX9_oddsUp wsX9_oddsUp) := goodIn_app (goodIn_of _ (by decide +kernel)) ggX9_enough_X9_oddsUp
set_option maxRecDepth 20000 in
theorem ggX9_enough_X9_oddsLow : GoodIn wsX9_enough wsX9_oddsLow := goodIn_r _ [24, 17, 18, 19, 5, 20, 25, 26, 27, 28, 29, 30, 31, 32, 33, 34, 35, 36, 37, 38, 39, 40, 41, 42, 43, 44, 45, 46, 47] (by decide +kernel) (by decide +kernel)
set_option maxRecDepth 20000 in
theorem gX9_enough_X9_oddsLow : GoodIn wsX9_enough (wsV RX9 265 RX9 yX9_oddsLow wsX9_oddsLow) := goodIn_app (goodIn_of _ (by decide +kernel)) ggX9_enough_X9_oddsLow
theorem dX9_enough_0 : decode cX9_enough 0 = .ok (.iload_n 1, 1) := by decide +kernel
theorem dX9_enough_1 : decode cX9_enough 1 = .ok (.i2l, 1) := by decide +kernel
theorem dX9_enough_2 : decode cX9_enough 2 = .ok (.lconst 1, 1) := by decide +kernel
theorem dX9_enough_3 : decode cX9_enough 3 = .ok (.ldc2_w 259, 3) := by decide +kernel
theorem dX9_enough_6 : decode cX9_enough 6 = .ok (.invokestatic 54, 3) := by decide +kernel
theorem dX9_enough_9 : decode cX9_enough 9 = .ok (.ifCond .eq 15, 3) := by decide +kernel
theorem dX9_enough_12 : decode cX9_enough 12 = .ok (.iload_n 2, 1) := by decide +kernel
theorem dX9_enough_13 : decode cX9_enough 13 = .ok (.i2l, 1) := by decide +kernel
theorem dX9_enough_14 : decode cX9_enough 14 = .ok (.lconst 0, 1) := by decide +kernel
theorem dX9_enough_15 : decode cX9_enough 15 = .ok (.ldc2_w 272, 3) := by decide +kernel
theorem dX9_enough_18 : decode cX9_enough 18 = .ok (.invokestatic 54, 3) := by decide +kernel
theorem dX9_enough_21 : decode cX9_enough 21 = .ok (.ifCond .ne 9, 3) := by decide +kernel
theorem dX9_enough_24 : decode cX9_enough 24 = .ok (.aload_n 0, 1) := by decide +kernel
theorem dX9_enough_25 : decode cX9_enough 25 = .ok (.iconst 1, 1) := by decide +kernel
theorem dX9_enough_26 : decode cX9_enough 26 = .ok (.invokevirtual 68, 3) := by decide +kernel
theorem dX9_enough_29 : decode cX9_enough 29 = .ok (.ireturn, 1) := by decide +kernel
theorem dX9_enough_30 : decode cX9_enough 30 = .ok (.iconst 1, 1) := by decide +kernel
theorem dX9_enough_31 : decode cX9_enough 31 = .ok (.istore_n 3, 1) := by decide +kernel
theorem dX9_enough_32 : decode cX9_enough 32 = .ok (.iload_n 3, 1) := by decide +kernel
theorem dX9_enough_33 : decode cX9_enough 33 = .ok (.iconst 4, 1) := by decide +kernel
theorem dX9_enough_34 : decode cX9_enough 34 = .ok (.if_icmp .gt 34, 3) := by decide +kernel
theorem dX9_enough_37 : decode cX9_enough 37 = .ok (.ldc2_w 272, 3) := by decide +kernel
theorem dX9_enough_40 : decode cX9_enough 40 = .ok (.aload_n 0, 1) := by decide +kernel
theorem dX9_enough_41 : decode cX9_enough 41 = .ok (.iload_n 1, 1) := by decide +kernel
theorem dX9_enough_42 : decode cX9_enough 42 = .ok (.iload_n 3, 1) := by decide +kernel
theorem dX9_enough_43 : decode cX9_enough 43 = .ok (.invokevirtual 261, 3) := by decide +kernel
theorem dX9_enough_46 : decode cX9_enough 46 = .ok (.lmul, 1) := by decide +kernel
theorem dX9_enough_47 : decode cX9_enough 47 = .ok (.iload_n 2, 1) := by decide +kernel
theorem dX9_enough_48 : decode cX9_enough 48 = .ok (.i2l, 1) := by decide +kernel
theorem dX9_enough_49 : decode cX9_enough 49 = .ok (.aload_n 0, 1) := by decide +kernel
theorem dX9_enough_50 : decode cX9_enough 50 = .ok (.iload_n 1, 1) := by decide +kernel
theorem dX9_enough_51 : decode cX9_enough 51 = .ok (.iload_n 3, 1) := by decide +kernel
theorem dX9_enough_52 : decode cX9_enough 52 = .ok (.invokevirtual 265, 3) := by decide +kernel
theorem dX9_enough_55 : decode cX9_enough 55 = .ok (.lmul, 1) := by decide +kernel
theorem dX9_enough_56 : decode cX9_enough 56 = .ok (.lcmp, 1) := by decide +kernel
theorem dX9_enough_57 : decode cX9_enough 57 = .ok (.ifCond .lt 5, 3) := by decide +kernel
theorem dX9_enough_60 : decode cX9_enough 60 = .ok (.iload_n 3, 1) := by decide +kernel
theorem dX9_enough_61 : decode cX9_enough 61 = .ok (.ireturn, 1) := by decide +kernel
theorem dX9_enough_62 : decode cX9_enough 62 = .ok (.iinc 3 1, 3) := by decide +kernel
theorem dX9_enough_65 : decode cX9_enough 65 = .ok (.goto (-33), 3) := by decide +kernel
theorem dX9_enough_68 : decode cX9_enough 68 = .ok (.aload_n 0, 1) := by decide +kernel
theorem dX9_enough_69 : decode cX9_enough 69 = .ok (.iconst 2, 1) := by decide +kernel
theorem dX9_enough_70 : decode cX9_enough 70 = .ok (.invokevirtual 68, 3) := by decide +kernel
theorem dX9_enough_73 : decode cX9_enough 73 = .ok (.ireturn, 1) := by decide +kernel
set_option maxRecDepth 20000 in
theorem ggX9_pays_X9_in : GoodIn wsX9_pays wsX9_in := goodIn_r _ [7] (by decide +kernel) (by decide +kernel)
set_option maxRecDepth 20000 in
theorem gX9_pays_X9_in : GoodIn wsX9_pays (va_wsS RX9 54 yX9_in wsX9_in) := goodIn_app (goodIn_of _ (by decide +kernel)) ggX9_pays_X9_in
set_option maxRecDepth 20000 in
theorem ggX9_pays_X9_finds : GoodIn wsX9_pays wsX9_finds := goodIn_r _ [11, 12, 13, 14, 15, 16, 17, 18, 19, 20, 21, 22, 23, 24, 25, 26, 27, 28, 29, 30, 31, 32, 33, 34, 35, 36] (by decide +kernel) (by decide +kernel)
set_option maxRecDepth 20000 in
theorem gX9_pays_X9_finds : GoodIn wsX9_pays (wsV RX9 68 RX9 yX9_finds wsX9_finds) := goodIn_app (goodIn_of _ (by decide +kernel)) ggX9_pays_X9_finds
theorem dX9_pays_0 : decode cX9_pays 0 = .ok (.iload_n 1, 1) := by decide +kernel
theorem dX9_pays_1 : decode cX9_pays 1 = .ok (.ifCond .lt 33, 3) := by decide +kernel
theorem dX9_pays_4 : decode cX9_pays 4 = .ok (.iload_n 1, 1) := by decide +kernel
theorem dX9_pays_5 : decode cX9_pays 5 = .ok (.bipush 20, 2) := by decide +kernel
theorem dX9_pays_7 : decode cX9_pays 7 = .ok (.idiv, 1) := by decide +kernel
theorem dX9_pays_8 : decode cX9_pays 8 = .ok (.iconst 3, 1) := by decide +kernel
theorem dX9_pays_9 : decode cX9_pays 9 = .ok (.if_icmp .gt 25, 3) := by decide +kernel
theorem dX9_pays_12 : decode cX9_pays 12 = .ok (.iload_n 1, 1) := by decide +kernel
theorem dX9_pays_13 : decode cX9_pays 13 = .ok (.bipush 10, 2) := by decide +kernel
theorem dX9_pays_15 : decode cX9_pays 15 = .ok (.irem, 1) := by decide +kernel
theorem dX9_pays_16 : decode cX9_pays 16 = .ok (.iconst 3, 1) := by decide +kernel
theorem dX9_pays_17 : decode cX9_pays 17 = .ok (.if_icmp .gt 17, 3) := by decide +kernel
theorem dX9_pays_20 : decode cX9_pays 20 = .ok (.iload_n 2, 1) := by decide +kernel
theorem dX9_pays_21 : decode cX9_pays 21 = .ok (.i2l, 1) := by decide +kernel
theorem dX9_pays_22 : decode cX9_pays 22 = .ok (.ldc2_w 274, 3) := by decide +kernel
theorem dX9_pays_25 : decode cX9_pays 25 = .ok (.ldc2_w 89, 3) := by decide +kernel
theorem dX9_pays_28 : decode cX9_pays 28 = .ok (.invokestatic 54, 3) := by decide +kernel
theorem dX9_pays_31 : decode cX9_pays 31 = .ok (.ifCond .ne 9, 3) := by decide +kernel
theorem dX9_pays_34 : decode cX9_pays 34 = .ok (.aload_n 0, 1) := by decide +kernel
theorem dX9_pays_35 : decode cX9_pays 35 = .ok (.iconst 1, 1) := by decide +kernel
theorem dX9_pays_36 : decode cX9_pays 36 = .ok (.invokevirtual 68, 3) := by decide +kernel
theorem dX9_pays_39 : decode cX9_pays 39 = .ok (.ireturn, 1) := by decide +kernel
theorem dX9_pays_40 : decode cX9_pays 40 = .ok (.bipush 70, 2) := by decide +kernel
theorem dX9_pays_42 : decode cX9_pays 42 = .ok (.bipush 8, 2) := by decide +kernel
theorem dX9_pays_44 : decode cX9_pays 44 = .ok (.iload_n 1, 1) := by decide +kernel
theorem dX9_pays_45 : decode cX9_pays 45 = .ok (.bipush 20, 2) := by decide +kernel
theorem dX9_pays_47 : decode cX9_pays 47 = .ok (.idiv, 1) := by decide +kernel
theorem dX9_pays_48 : decode cX9_pays 48 = .ok (.imul, 1) := by decide +kernel
theorem dX9_pays_49 : decode cX9_pays 49 = .ok (.iadd, 1) := by decide +kernel
theorem dX9_pays_50 : decode cX9_pays 50 = .ok (.iconst 4, 1) := by decide +kernel
theorem dX9_pays_51 : decode cX9_pays 51 = .ok (.iload_n 1, 1) := by decide +kernel
theorem dX9_pays_52 : decode cX9_pays 52 = .ok (.bipush 10, 2) := by decide +kernel
theorem dX9_pays_54 : decode cX9_pays 54 = .ok (.idiv, 1) := by decide +kernel
theorem dX9_pays_55 : decode cX9_pays 55 = .ok (.iconst 2, 1) := by decide +kernel
theorem dX9_pays_56 : decode cX9_pays 56 = .ok (.irem, 1) := by decide +kernel
theorem dX9_pays_57 : decode cX9_pays 57 = .ok (.imul, 1) := by decide +kernel
theorem dX9_pays_58 : decode cX9_pays 58 = .ok (.iadd, 1) := by decide +kernel
theorem dX9_pays_59 : decode cX9_pays 59 = .ok (.iload_n 1, 1) := by decide +kernel
theorem dX9_pays_60 : decode cX9_pays 60 = .ok (.bipush 10, 2) := by decide +kernel
theorem dX9_pays_62 : decode cX9_pays 62 = .ok (.irem, 1) := by decide +kernel
theorem dX9_pays_63 : decode cX9_pays 63 = .ok (.iadd, 1) := by decide +kernel
theorem dX9_pays_64 : decode cX9_pays 64 = .ok (.istore_n 3, 1) := by decide +kernel
theorem dX9_pays_65 : decode cX9_pays 65 = .ok (.aload_n 0, 1) := by decide +kernel
theorem dX9_pays_66 : decode cX9_pays 66 = .ok (.getfield 7, 3) := by decide +kernel
theorem dX9_pays_69 : decode cX9_pays 69 = .ok (.iload_n 3, 1) := by decide +kernel
theorem dX9_pays_70 : decode cX9_pays 70 = .ok (.iaload, 1) := by decide +kernel
theorem dX9_pays_71 : decode cX9_pays 71 = .ok (.istore 4, 2) := by decide +kernel
theorem dX9_pays_73 : decode cX9_pays 73 = .ok (.aload_n 0, 1) := by decide +kernel
theorem dX9_pays_74 : decode cX9_pays 74 = .ok (.getfield 7, 3) := by decide +kernel
theorem dX9_pays_77 : decode cX9_pays 77 = .ok (.iload_n 3, 1) := by decide +kernel
theorem dX9_pays_78 : decode cX9_pays 78 = .ok (.iload_n 2, 1) := by decide +kernel
theorem dX9_pays_79 : decode cX9_pays 79 = .ok (.iastore, 1) := by decide +kernel
theorem dX9_pays_80 : decode cX9_pays 80 = .ok (.iload 4, 2) := by decide +kernel
theorem dX9_pays_82 : decode cX9_pays 82 = .ok (.ireturn, 1) := by decide +kernel
theorem dX9_payOf_0 : decode cX9_payOf 0 = .ok (.aload_n 0, 1) := by decide +kernel
theorem dX9_payOf_1 : decode cX9_payOf 1 = .ok (.getfield 7, 3) := by decide +kernel
theorem dX9_payOf_4 : decode cX9_payOf 4 = .ok (.bipush 70, 2) := by decide +kernel
theorem dX9_payOf_6 : decode cX9_payOf 6 = .ok (.bipush 8, 2) := by decide +kernel
theorem dX9_payOf_8 : decode cX9_payOf 8 = .ok (.iload_n 1, 1) := by decide +kernel
theorem dX9_payOf_9 : decode cX9_payOf 9 = .ok (.imul, 1) := by decide +kernel
theorem dX9_payOf_10 : decode cX9_payOf 10 = .ok (.iadd, 1) := by decide +kernel
theorem dX9_payOf_11 : decode cX9_payOf 11 = .ok (.iconst 4, 1) := by decide +kernel
theorem dX9_payOf_12 : decode cX9_payOf 12 = .ok (.iload_n 2, 1) := by decide +kernel
theorem dX9_payOf_13 : decode cX9_payOf 13 = .ok (.imul, 1) := by decide +kernel
theorem dX9_payOf_14 : decode cX9_payOf 14 = .ok (.iadd, 1) := by decide +kernel
theorem dX9_payOf_15 : decode cX9_payOf 15 = .ok (.iconst 2, 1) := by decide +kernel
theorem dX9_payOf_16 : decode cX9_payOf 16 = .ok (.iload_n 3, 1) := by decide +kernel
theorem dX9_payOf_17 : decode cX9_payOf 17 = .ok (.imul, 1) := by decide +kernel
theorem dX9_payOf_18 : decode cX9_payOf 18 = .ok (.iadd, 1) := by decide +kernel
theorem dX9_payOf_19 : decode cX9_payOf 19 = .ok (.iload 4, 2) := by decide +kernel
theorem dX9_payOf_21 : decode cX9_payOf 21 = .ok (.iadd, 1) := by decide +kernel
theorem dX9_payOf_22 : decode cX9_payOf 22 = .ok (.iaload, 1) := by decide +kernel
theorem dX9_payOf_23 : decode cX9_payOf 23 = .ok (.ireturn, 1) := by decide +kernel
set_option maxRecDepth 20000 in
theorem ggX9_rest_X9_isPact : GoodIn wsX9_rest wsX9_isPact := goodIn_r _ [4, 5, 6, 7, 3, 8] (by decide +kernel) (by decide +kernel)
set_option maxRecDepth 20000 in
theorem gX9_rest_X9_isPact : GoodIn wsX9_rest (va_wsS RX9 111 yX9_isPact wsX9_isPact) := goodIn_app (goodIn_of _ (by decide +kernel)) ggX9_rest_X9_isPact
set_option maxRecDepth 20000 in
theorem ggX9_rest_X9_finds : GoodIn wsX9_rest wsX9_finds := goodIn_r _ [12, 13, 14, 20, 21, 22, 23, 24, 25, 26, 27, 28, 29, 30, 31, 32, 33, 34, 35, 36, 37, 38, 39, 40, 41, 42] (by decide +kernel) (by decide +kernel)
set_option maxRecDepth 20000 in
theorem gX9_rest_X9_finds : GoodIn wsX9_rest (wsV RX9 68 RX9 yX9_finds wsX9_finds) := goodIn_app (goodIn_of _ (by decide +kernel)) ggX9_rest_X9_finds
set_option maxRecDepth 20000 in
theorem ggX9_rest_X9_payOf : GoodIn wsX9_rest wsX9_payOf := goodIn_r _ [18, 19, 20, 21, 22, 23, 24, 25, 26, 27, 28, 29, 30, 31, 32, 33, 34, 35, 36, 37, 38, 39, 40, 41, 42] (by decide +kernel) (by decide +kernel)
set_option maxRecDepth 20000 in
theorem gX9_rest_X9_payOf : GoodIn wsX9_rest (wsV RX9 276 RX9 yX9_payOf wsX9_payOf) := goodIn_app (goodIn_of _ (by decide +kernel)) ggX9_rest_X9_payOf
theorem dX9_rest_0 : decode cX9_rest 0 = .ok (.iload_n 1, 1) := by decide +kernel
theorem dX9_rest_1 : decode cX9_rest 1 = .ok (.invokestatic 111, 3) := by decide +kernel
theorem dX9_rest_4 : decode cX9_rest 4 = .ok (.ifCond .ne 9, 3) := by decide +kernel
theorem dX9_rest_7 : decode cX9_rest 7 = .ok (.aload_n 0, 1) := by decide +kernel
theorem dX9_rest_8 : decode cX9_rest 8 = .ok (.iconst 1, 1) := by decide +kernel
theorem dX9_rest_9 : decode cX9_rest 9 = .ok (.invokevirtual 68, 3) := by decide +kernel
theorem dX9_rest_12 : decode cX9_rest 12 = .ok (.ireturn, 1) := by decide +kernel
theorem dX9_rest_13 : decode cX9_rest 13 = .ok (.iconst 0, 1) := by decide +kernel
theorem dX9_rest_14 : decode cX9_rest 14 = .ok (.istore_n 2, 1) := by decide +kernel
theorem dX9_rest_15 : decode cX9_rest 15 = .ok (.iconst 0, 1) := by decide +kernel
theorem dX9_rest_16 : decode cX9_rest 16 = .ok (.istore_n 3, 1) := by decide +kernel
theorem dX9_rest_17 : decode cX9_rest 17 = .ok (.iload_n 3, 1) := by decide +kernel
theorem dX9_rest_18 : decode cX9_rest 18 = .ok (.iconst 4, 1) := by decide +kernel
theorem dX9_rest_19 : decode cX9_rest 19 = .ok (.if_icmp .ge 91, 3) := by decide +kernel
theorem dX9_rest_22 : decode cX9_rest 22 = .ok (.iload_n 3, 1) := by decide +kernel
theorem dX9_rest_23 : decode cX9_rest 23 = .ok (.iconst 2, 1) := by decide +kernel
theorem dX9_rest_24 : decode cX9_rest 24 = .ok (.idiv, 1) := by decide +kernel
theorem dX9_rest_25 : decode cX9_rest 25 = .ok (.istore 4, 2) := by decide +kernel
theorem dX9_rest_27 : decode cX9_rest 27 = .ok (.iload_n 3, 1) := by decide +kernel
theorem dX9_rest_28 : decode cX9_rest 28 = .ok (.iconst 2, 1) := by decide +kernel
theorem dX9_rest_29 : decode cX9_rest 29 = .ok (.irem, 1) := by decide +kernel
theorem dX9_rest_30 : decode cX9_rest 30 = .ok (.istore 5, 2) := by decide +kernel
theorem dX9_rest_32 : decode cX9_rest 32 = .ok (.aload_n 0, 1) := by decide +kernel
theorem dX9_rest_33 : decode cX9_rest 33 = .ok (.iload_n 1, 1) := by decide +kernel
theorem dX9_rest_34 : decode cX9_rest 34 = .ok (.iconst 0, 1) := by decide +kernel
theorem dX9_rest_35 : decode cX9_rest 35 = .ok (.iload 4, 2) := by decide +kernel
theorem dX9_rest_37 : decode cX9_rest 37 = .ok (.iload 5, 2) := by decide +kernel
theorem dX9_rest_39 : decode cX9_rest 39 = .ok (.invokevirtual 276, 3) := by decide +kernel
theorem dX9_rest_42 : decode cX9_rest 42 = .ok (.aload_n 0, 1) := by decide +kernel
theorem dX9_rest_43 : decode cX9_rest 43 = .ok (.iload_n 1, 1) := by decide +kernel
theorem dX9_rest_44 : decode cX9_rest 44 = .ok (.iconst 0, 1) := by decide +kernel
theorem dX9_rest_45 : decode cX9_rest 45 = .ok (.iconst 1, 1) := by decide +kernel
theorem dX9_rest_46 : decode cX9_rest 46 = .ok (.iload 4, 2) := by decide +kernel
theorem dX9_rest_48 : decode cX9_rest 48 = .ok (.isub, 1) := by decide +kernel
theorem dX9_rest_49 : decode cX9_rest 49 = .ok (.iload 5, 2) := by decide +kernel
theorem dX9_rest_51 : decode cX9_rest 51 = .ok (.invokevirtual 276, 3) := by decide +kernel
theorem dX9_rest_54 : decode cX9_rest 54 = .ok (.if_icmp .lt 32, 3) := by decide +kernel
theorem dX9_rest_57 : decode cX9_rest 57 = .ok (.aload_n 0, 1) := by decide +kernel
theorem dX9_rest_58 : decode cX9_rest 58 = .ok (.iload_n 1, 1) := by decide +kernel
theorem dX9_rest_59 : decode cX9_rest 59 = .ok (.iconst 1, 1) := by decide +kernel
theorem dX9_rest_60 : decode cX9_rest 60 = .ok (.iload 5, 2) := by decide +kernel
theorem dX9_rest_62 : decode cX9_rest 62 = .ok (.iload 4, 2) := by decide +kernel
theorem dX9_rest_64 : decode cX9_rest 64 = .ok (.invokevirtual 276, 3) := by decide +kernel
theorem dX9_rest_67 : decode cX9_rest 67 = .ok (.aload_n 0, 1) := by decide +kernel
theorem dX9_rest_68 : decode cX9_rest 68 = .ok (.iload_n 1, 1) := by decide +kernel
theorem dX9_rest_69 : decode cX9_rest 69 = .ok (.iconst 1, 1) := by decide +kernel
theorem dX9_rest_70 : decode cX9_rest 70 = .ok (.iconst 1, 1) := by decide +kernel
theorem dX9_rest_71 : decode cX9_rest 71 = .ok (.iload 5, 2) := by decide +kernel
theorem dX9_rest_73 : decode cX9_rest 73 = .ok (.isub, 1) := by decide +kernel
theorem dX9_rest_74 : decode cX9_rest 74 = .ok (.iload 4, 2) := by decide +kernel
theorem dX9_rest_76 : decode cX9_rest 76 = .ok (.invokevirtual 276, 3) := by decide +kernel
theorem dX9_rest_79 : decode cX9_rest 79 = .ok (.if_icmp .lt 7, 3) := by decide +kernel
theorem dX9_rest_82 : decode cX9_rest 82 = .ok (.iconst 1, 1) := by decide +kernel
theorem dX9_rest_83 : decode cX9_rest 83 = .ok (.goto 4, 3) := by decide +kernel
theorem dX9_rest_86 : decode cX9_rest 86 = .ok (.iconst 0, 1) := by decide +kernel
theorem dX9_rest_87 : decode cX9_rest 87 = .ok (.istore 6, 2) := by decide +kernel
theorem dX9_rest_89 : decode cX9_rest 89 = .ok (.iload_n 2, 1) := by decide +kernel
theorem dX9_rest_90 : decode cX9_rest 90 = .ok (.iload 6, 2) := by decide +kernel
theorem dX9_rest_92 : decode cX9_rest 92 = .ok (.ifCond .eq 9, 3) := by decide +kernel
theorem dX9_rest_95 : decode cX9_rest 95 = .ok (.iconst 1, 1) := by decide +kernel
theorem dX9_rest_96 : decode cX9_rest 96 = .ok (.iload_n 3, 1) := by decide +kernel
theorem dX9_rest_97 : decode cX9_rest 97 = .ok (.ishl, 1) := by decide +kernel
theorem dX9_rest_98 : decode cX9_rest 98 = .ok (.goto 4, 3) := by decide +kernel
theorem dX9_rest_101 : decode cX9_rest 101 = .ok (.iconst 0, 1) := by decide +kernel
theorem dX9_rest_102 : decode cX9_rest 102 = .ok (.ior, 1) := by decide +kernel
theorem dX9_rest_103 : decode cX9_rest 103 = .ok (.istore_n 2, 1) := by decide +kernel
theorem dX9_rest_104 : decode cX9_rest 104 = .ok (.iinc 3 1, 3) := by decide +kernel
theorem dX9_rest_107 : decode cX9_rest 107 = .ok (.goto (-90), 3) := by decide +kernel
theorem dX9_rest_110 : decode cX9_rest 110 = .ok (.iload_n 2, 1) := by decide +kernel
theorem dX9_rest_111 : decode cX9_rest 111 = .ok (.ireturn, 1) := by decide +kernel
set_option maxRecDepth 20000 in
theorem ggX9_answer_X9_isPact : GoodIn wsX9_answer wsX9_isPact := goodIn_r _ [4, 5, 6, 7, 3, 8] (by decide +kernel) (by decide +kernel)
set_option maxRecDepth 20000 in
theorem gX9_answer_X9_isPact : GoodIn wsX9_answer (va_wsS RX9 111 yX9_isPact wsX9_isPact) := goodIn_app (goodIn_of _ (by decide +kernel)) ggX9_answer_X9_isPact
set_option maxRecDepth 20000 in
theorem ggX9_answer_X9_in : GoodIn wsX9_answer wsX9_in := goodIn_r _ [8] (by decide +kernel) (by decide +kernel)
set_option maxRecDepth 20000 in
theorem gX9_answer_X9_in : GoodIn wsX9_answer (va_wsS RX9 54 yX9_in wsX9_in) := goodIn_app (goodIn_of _ (by decide +kernel)) ggX9_answer_X9_in
set_option maxRecDepth 20000 in
theorem ggX9_answer_X9_finds : GoodIn wsX9_answer wsX9_finds := goodIn_r _ [12, 13, 14, 20, 21, 22, 23, 24, 25, 26, 27, 28, 29, 30, 31, 32, 33, 34, 35, 36, 37, 38, 39, 40, 41, 42] (by decide +kernel) (by decide +kernel)
set_option maxRecDepth 20000 in
theorem gX9_answer_X9_finds : GoodIn wsX9_answer (wsV RX9 68 RX9 yX9_finds wsX9_finds) := goodIn_app (goodIn_of _ (by decide +kernel)) ggX9_answer_X9_finds
set_option maxRecDepth 20000 in
theorem ggX9_answer_X9_payOf : GoodIn wsX9_answer wsX9_payOf := goodIn_r _ [18, 19, 20, 21, 22, 23, 24, 25, 26, 27, 28, 29, 30, 31, 32, 33, 34, 35, 36, 37, 38, 39, 40, 41, 42] (by decide +kernel) (by decide +kernel)
set_option maxRecDepth 20000 in
theorem gX9_answer_X9_payOf : GoodIn wsX9_answer (wsV RX9 276 RX9 yX9_payOf wsX9_payOf) := goodIn_app (goodIn_of _ (by decide +kernel)) ggX9_answer_X9_payOf
theorem dX9_answer_0 : decode cX9_answer 0 = .ok (.iload_n 1, 1) := by decide +kernel
theorem dX9_answer_1 : decode cX9_answer 1 = .ok (.invokestatic 111, 3) := by decide +kernel
theorem dX9_answer_4 : decode cX9_answer 4 = .ok (.ifCond .eq 23, 3) := by decide +kernel
theorem dX9_answer_7 : decode cX9_answer 7 = .ok (.iload_n 2, 1) := by decide +kernel
theorem dX9_answer_8 : decode cX9_answer 8 = .ok (.i2l, 1) := by decide +kernel
theorem dX9_answer_9 : decode cX9_answer 9 = .ok (.lconst 0, 1) := by decide +kernel
theorem dX9_answer_10 : decode cX9_answer 10 = .ok (.lconst 1, 1) := by decide +kernel
theorem dX9_answer_11 : decode cX9_answer 11 = .ok (.invokestatic 54, 3) := by decide +kernel
theorem dX9_answer_14 : decode cX9_answer 14 = .ok (.ifCond .eq 13, 3) := by decide +kernel
theorem dX9_answer_17 : decode cX9_answer 17 = .ok (.iload_n 3, 1) := by decide +kernel
theorem dX9_answer_18 : decode cX9_answer 18 = .ok (.i2l, 1) := by decide +kernel
theorem dX9_answer_19 : decode cX9_answer 19 = .ok (.lconst 0, 1) := by decide +kernel
theorem dX9_answer_20 : decode cX9_answer 20 = .ok (.lconst 1, 1) := by decide +kernel
theorem dX9_answer_21 : decode cX9_answer 21 = .ok (.invokestatic 54, 3) := by decide +kernel
theorem dX9_answer_24 : decode cX9_answer 24 = .ok (.ifCond .ne 9, 3) := by decide +kernel
theorem dX9_answer_27 : decode cX9_answer 27 = .ok (.aload_n 0, 1) := by decide +kernel
theorem dX9_answer_28 : decode cX9_answer 28 = .ok (.iconst 1, 1) := by decide +kernel
theorem dX9_answer_29 : decode cX9_answer 29 = .ok (.invokevirtual 68, 3) := by decide +kernel
theorem dX9_answer_32 : decode cX9_answer 32 = .ok (.ireturn, 1) := by decide +kernel
theorem dX9_answer_33 : decode cX9_answer 33 = .ok (.aload_n 0, 1) := by decide +kernel
theorem dX9_answer_34 : decode cX9_answer 34 = .ok (.iload_n 1, 1) := by decide +kernel
theorem dX9_answer_35 : decode cX9_answer 35 = .ok (.iload_n 2, 1) := by decide +kernel
theorem dX9_answer_36 : decode cX9_answer 36 = .ok (.iconst 1, 1) := by decide +kernel
theorem dX9_answer_37 : decode cX9_answer 37 = .ok (.iload_n 3, 1) := by decide +kernel
theorem dX9_answer_38 : decode cX9_answer 38 = .ok (.invokevirtual 276, 3) := by decide +kernel
theorem dX9_answer_41 : decode cX9_answer 41 = .ok (.aload_n 0, 1) := by decide +kernel
theorem dX9_answer_42 : decode cX9_answer 42 = .ok (.iload_n 1, 1) := by decide +kernel
theorem dX9_answer_43 : decode cX9_answer 43 = .ok (.iload_n 2, 1) := by decide +kernel
theorem dX9_answer_44 : decode cX9_answer 44 = .ok (.iconst 0, 1) := by decide +kernel
theorem dX9_answer_45 : decode cX9_answer 45 = .ok (.iload_n 3, 1) := by decide +kernel
theorem dX9_answer_46 : decode cX9_answer 46 = .ok (.invokevirtual 276, 3) := by decide +kernel
theorem dX9_answer_49 : decode cX9_answer 49 = .ok (.if_icmp .le 7, 3) := by decide +kernel
theorem dX9_answer_52 : decode cX9_answer 52 = .ok (.iconst 1, 1) := by decide +kernel
theorem dX9_answer_53 : decode cX9_answer 53 = .ok (.goto 4, 3) := by decide +kernel
theorem dX9_answer_56 : decode cX9_answer 56 = .ok (.iconst 0, 1) := by decide +kernel
theorem dX9_answer_57 : decode cX9_answer 57 = .ok (.ireturn, 1) := by decide +kernel
set_option maxRecDepth 20000 in
theorem ggX9_isWork_X9_in : GoodIn wsX9_isWork wsX9_in := goodIn_r _ [5] (by decide +kernel) (by decide +kernel)
set_option maxRecDepth 20000 in
theorem gX9_isWork_X9_in : GoodIn wsX9_isWork (va_wsS RX9 54 yX9_in wsX9_in) := goodIn_app (goodIn_of _ (by decide +kernel)) ggX9_isWork_X9_in
theorem dX9_isWork_0 : decode cX9_isWork 0 = .ok (.iload_n 1, 1) := by decide +kernel
theorem dX9_isWork_1 : decode cX9_isWork 1 = .ok (.i2l, 1) := by decide +kernel
theorem dX9_isWork_2 : decode cX9_isWork 2 = .ok (.lconst 0, 1) := by decide +kernel
theorem dX9_isWork_3 : decode cX9_isWork 3 = .ok (.aload_n 0, 1) := by decide +kernel
theorem dX9_isWork_4 : decode cX9_isWork 4 = .ok (.getfield 7, 3) := by decide +kernel
theorem dX9_isWork_7 : decode cX9_isWork 7 = .ok (.iconst 3, 1) := by decide +kernel
theorem dX9_isWork_8 : decode cX9_isWork 8 = .ok (.iaload, 1) := by decide +kernel
theorem dX9_isWork_9 : decode cX9_isWork 9 = .ok (.iconst 1, 1) := by decide +kernel
theorem dX9_isWork_10 : decode cX9_isWork 10 = .ok (.isub, 1) := by decide +kernel
theorem dX9_isWork_11 : decode cX9_isWork 11 = .ok (.i2l, 1) := by decide +kernel
theorem dX9_isWork_12 : decode cX9_isWork 12 = .ok (.invokestatic 54, 3) := by decide +kernel
theorem dX9_isWork_15 : decode cX9_isWork 15 = .ok (.ireturn, 1) := by decide +kernel
set_option maxRecDepth 20000 in
theorem ggX9_work_X9_in : GoodIn wsX9_work wsX9_in := goodIn_r _ [6] (by decide +kernel) (by decide +kernel)
set_option maxRecDepth 20000 in
theorem gX9_work_X9_in : GoodIn wsX9_work (va_wsS RX9 54 yX9_in wsX9_in) := goodIn_app (goodIn_of _ (by decide +kernel)) ggX9_work_X9_in
set_option maxRecDepth 20000 in
theorem ggX9_work_X9_finds : GoodIn wsX9_work wsX9_finds := goodIn_r _ [10, 11, 12, 13, 14, 15, 16, 17, 18, 19, 20, 21, 22, 23, 24, 25, 26, 27, 28, 29, 30, 31, 32, 33, 34, 35] (by decide +kernel) (by decide +kernel)
set_option maxRecDepth 20000 in
theorem gX9_work_X9_finds : GoodIn wsX9_work (wsV RX9 68 RX9 yX9_finds wsX9_finds) := goodIn_app (goodIn_of _ (by decide +kernel)) ggX9_work_X9_finds
theorem dX9_work_0 : decode cX9_work 0 = .ok (.iload_n 1, 1) := by decide +kernel
theorem dX9_work_1 : decode cX9_work 1 = .ok (.i2l, 1) := by decide +kernel
theorem dX9_work_2 : decode cX9_work 2 = .ok (.lconst 0, 1) := by decide +kernel
theorem dX9_work_3 : decode cX9_work 3 = .ok (.ldc2_w 280, 3) := by decide +kernel
theorem dX9_work_6 : decode cX9_work 6 = .ok (.invokestatic 54, 3) := by decide +kernel
theorem dX9_work_9 : decode cX9_work 9 = .ok (.ifCond .eq 15, 3) := by decide +kernel
theorem dX9_work_12 : decode cX9_work 12 = .ok (.iload_n 2, 1) := by decide +kernel
theorem dX9_work_13 : decode cX9_work 13 = .ok (.i2l, 1) := by decide +kernel
theorem dX9_work_14 : decode cX9_work 14 = .ok (.lconst 0, 1) := by decide +kernel
theorem dX9_work_15 : decode cX9_work 15 = .ok (.ldc2_w 280, 3) := by decide +kernel
theorem dX9_work_18 : decode cX9_work 18 = .ok (.invokestatic 54, 3) := by decide +kernel
theorem dX9_work_21 : decode cX9_work 21 = .ok (.ifCond .ne 9, 3) := by decide +kernel
theorem dX9_work_24 : decode cX9_work 24 = .ok (.aload_n 0, 1) := by decide +kernel
theorem dX9_work_25 : decode cX9_work 25 = .ok (.iconst 1, 1) := by decide +kernel
theorem dX9_work_26 : decode cX9_work 26 = .ok (.invokevirtual 68, 3) := by decide +kernel
theorem dX9_work_29 : decode cX9_work 29 = .ok (.ireturn, 1) := by decide +kernel
theorem dX9_work_30 : decode cX9_work 30 = .ok (.aload_n 0, 1) := by decide +kernel
theorem dX9_work_31 : decode cX9_work 31 = .ok (.getfield 7, 3) := by decide +kernel
theorem dX9_work_34 : decode cX9_work 34 = .ok (.iconst 3, 1) := by decide +kernel
theorem dX9_work_35 : decode cX9_work 35 = .ok (.iaload, 1) := by decide +kernel
theorem dX9_work_36 : decode cX9_work 36 = .ok (.bipush 8, 2) := by decide +kernel
theorem dX9_work_38 : decode cX9_work 38 = .ok (.if_icmp .ne 9, 3) := by decide +kernel
theorem dX9_work_41 : decode cX9_work 41 = .ok (.aload_n 0, 1) := by decide +kernel
theorem dX9_work_42 : decode cX9_work 42 = .ok (.iconst 4, 1) := by decide +kernel
theorem dX9_work_43 : decode cX9_work 43 = .ok (.invokevirtual 68, 3) := by decide +kernel
theorem dX9_work_46 : decode cX9_work 46 = .ok (.ireturn, 1) := by decide +kernel
theorem dX9_work_47 : decode cX9_work 47 = .ok (.aload_n 0, 1) := by decide +kernel
theorem dX9_work_48 : decode cX9_work 48 = .ok (.getfield 7, 3) := by decide +kernel
theorem dX9_work_51 : decode cX9_work 51 = .ok (.bipush 110, 2) := by decide +kernel
theorem dX9_work_53 : decode cX9_work 53 = .ok (.iconst 2, 1) := by decide +kernel
theorem dX9_work_54 : decode cX9_work 54 = .ok (.aload_n 0, 1) := by decide +kernel
theorem dX9_work_55 : decode cX9_work 55 = .ok (.getfield 7, 3) := by decide +kernel
theorem dX9_work_58 : decode cX9_work 58 = .ok (.iconst 3, 1) := by decide +kernel
theorem dX9_work_59 : decode cX9_work 59 = .ok (.iaload, 1) := by decide +kernel
theorem dX9_work_60 : decode cX9_work 60 = .ok (.imul, 1) := by decide +kernel
theorem dX9_work_61 : decode cX9_work 61 = .ok (.iadd, 1) := by decide +kernel
theorem dX9_work_62 : decode cX9_work 62 = .ok (.iload_n 1, 1) := by decide +kernel
theorem dX9_work_63 : decode cX9_work 63 = .ok (.iastore, 1) := by decide +kernel
theorem dX9_work_64 : decode cX9_work 64 = .ok (.aload_n 0, 1) := by decide +kernel
theorem dX9_work_65 : decode cX9_work 65 = .ok (.getfield 7, 3) := by decide +kernel
theorem dX9_work_68 : decode cX9_work 68 = .ok (.bipush 110, 2) := by decide +kernel
theorem dX9_work_70 : decode cX9_work 70 = .ok (.iconst 2, 1) := by decide +kernel
theorem dX9_work_71 : decode cX9_work 71 = .ok (.aload_n 0, 1) := by decide +kernel
theorem dX9_work_72 : decode cX9_work 72 = .ok (.getfield 7, 3) := by decide +kernel
theorem dX9_work_75 : decode cX9_work 75 = .ok (.iconst 3, 1) := by decide +kernel
theorem dX9_work_76 : decode cX9_work 76 = .ok (.iaload, 1) := by decide +kernel
theorem dX9_work_77 : decode cX9_work 77 = .ok (.imul, 1) := by decide +kernel
theorem dX9_work_78 : decode cX9_work 78 = .ok (.iadd, 1) := by decide +kernel
theorem dX9_work_79 : decode cX9_work 79 = .ok (.iconst 1, 1) := by decide +kernel
theorem dX9_work_80 : decode cX9_work 80 = .ok (.iadd, 1) := by decide +kernel
theorem dX9_work_81 : decode cX9_work 81 = .ok (.iload_n 2, 1) := by decide +kernel
theorem dX9_work_82 : decode cX9_work 82 = .ok (.iastore, 1) := by decide +kernel
theorem dX9_work_83 : decode cX9_work 83 = .ok (.aload_n 0, 1) := by decide +kernel
theorem dX9_work_84 : decode cX9_work 84 = .ok (.getfield 7, 3) := by decide +kernel
theorem dX9_work_87 : decode cX9_work 87 = .ok (.iconst 3, 1) := by decide +kernel
theorem dX9_work_88 : decode cX9_work 88 = .ok (.dup2, 1) := by decide +kernel
theorem dX9_work_89 : decode cX9_work 89 = .ok (.iaload, 1) := by decide +kernel
theorem dX9_work_90 : decode cX9_work 90 = .ok (.iconst 1, 1) := by decide +kernel
theorem dX9_work_91 : decode cX9_work 91 = .ok (.iadd, 1) := by decide +kernel
theorem dX9_work_92 : decode cX9_work 92 = .ok (.iastore, 1) := by decide +kernel
theorem dX9_work_93 : decode cX9_work 93 = .ok (.aload_n 0, 1) := by decide +kernel
theorem dX9_work_94 : decode cX9_work 94 = .ok (.getfield 7, 3) := by decide +kernel
theorem dX9_work_97 : decode cX9_work 97 = .ok (.iconst 3, 1) := by decide +kernel
theorem dX9_work_98 : decode cX9_work 98 = .ok (.iaload, 1) := by decide +kernel
theorem dX9_work_99 : decode cX9_work 99 = .ok (.iconst 1, 1) := by decide +kernel
theorem dX9_work_100 : decode cX9_work 100 = .ok (.isub, 1) := by decide +kernel
theorem dX9_work_101 : decode cX9_work 101 = .ok (.ireturn, 1) := by decide +kernel
theorem dX9_isBlind_0 : decode cX9_isBlind 0 = .ok (.aload_n 0, 1) := by decide +kernel
theorem dX9_isBlind_1 : decode cX9_isBlind 1 = .ok (.getfield 7, 3) := by decide +kernel
theorem dX9_isBlind_4 : decode cX9_isBlind 4 = .ok (.bipush 110, 2) := by decide +kernel
theorem dX9_isBlind_6 : decode cX9_isBlind 6 = .ok (.iconst 2, 1) := by decide +kernel
theorem dX9_isBlind_7 : decode cX9_isBlind 7 = .ok (.iload_n 1, 1) := by decide +kernel
theorem dX9_isBlind_8 : decode cX9_isBlind 8 = .ok (.imul, 1) := by decide +kernel
theorem dX9_isBlind_9 : decode cX9_isBlind 9 = .ok (.iadd, 1) := by decide +kernel
theorem dX9_isBlind_10 : decode cX9_isBlind 10 = .ok (.iconst 1, 1) := by decide +kernel
theorem dX9_isBlind_11 : decode cX9_isBlind 11 = .ok (.iadd, 1) := by decide +kernel
theorem dX9_isBlind_12 : decode cX9_isBlind 12 = .ok (.iaload, 1) := by decide +kernel
theorem dX9_isBlind_13 : decode cX9_isBlind 13 = .ok (.iload_n 2, 1) := by decide +kernel
theorem dX9_isBlind_14 : decode cX9_isBlind 14 = .ok (.imul, 1) := by decide +kernel
theorem dX9_isBlind_15 : decode cX9_isBlind 15 = .ok (.aload_n 0, 1) := by decide +kernel
theorem dX9_isBlind_16 : decode cX9_isBlind 16 = .ok (.getfield 7, 3) := by decide +kernel
theorem dX9_isBlind_19 : decode cX9_isBlind 19 = .ok (.bipush 110, 2) := by decide +kernel
theorem dX9_isBlind_21 : decode cX9_isBlind 21 = .ok (.iconst 2, 1) := by decide +kernel
theorem dX9_isBlind_22 : decode cX9_isBlind 22 = .ok (.iload_n 1, 1) := by decide +kernel
theorem dX9_isBlind_23 : decode cX9_isBlind 23 = .ok (.imul, 1) := by decide +kernel
theorem dX9_isBlind_24 : decode cX9_isBlind 24 = .ok (.iadd, 1) := by decide +kernel
theorem dX9_isBlind_25 : decode cX9_isBlind 25 = .ok (.iaload, 1) := by decide +kernel
theorem dX9_isBlind_26 : decode cX9_isBlind 26 = .ok (.iload_n 3, 1) := by decide +kernel
theorem dX9_isBlind_27 : decode cX9_isBlind 27 = .ok (.imul, 1) := by decide +kernel
theorem dX9_isBlind_28 : decode cX9_isBlind 28 = .ok (.if_icmp .le 7, 3) := by decide +kernel
theorem dX9_isBlind_31 : decode cX9_isBlind 31 = .ok (.iconst 1, 1) := by decide +kernel
theorem dX9_isBlind_32 : decode cX9_isBlind 32 = .ok (.goto 4, 3) := by decide +kernel
theorem dX9_isBlind_35 : decode cX9_isBlind 35 = .ok (.iconst 0, 1) := by decide +kernel
theorem dX9_isBlind_36 : decode cX9_isBlind 36 = .ok (.ireturn, 1) := by decide +kernel
set_option maxRecDepth 20000 in
theorem ggX9_blind_X9_isWork : GoodIn wsX9_blind wsX9_isWork := goodIn_r _ [5, 6, 7, 8, 4, 9, 24, 25, 26, 27, 28, 29, 30, 31, 32, 33, 34, 35, 36, 37, 38, 39, 40, 41, 42, 43, 44, 45, 46] (by decide +kernel) (by decide +kernel)
set_option maxRecDepth 20000 in
theorem gX9_blind_X9_isWork : GoodIn wsX9_blind (wsV RX9 282 RX9 yX9_isWork wsX9_isWork) := goodIn_app (goodIn_of _ (by decide +kernel)) ggX9_blind_X9_isWork
set_option maxRecDepth 20000 in
theorem ggX9_blind_X9_isPart : GoodIn wsX9_blind wsX9_isPart := goodIn_r _ [12, 13, 7, 8, 4, 9] (by decide +kernel) (by decide +kernel)
set_option maxRecDepth 20000 in
theorem gX9_blind_X9_isPart : GoodIn wsX9_blind (va_wsS RX9 95 yX9_isPart wsX9_isPart) := goodIn_app (goodIn_of _ (by decide +kernel)) ggX9_blind_X9_isPart
set_option maxRecDepth 20000 in
theorem ggX9_blind_X9_finds : GoodIn wsX9_blind wsX9_finds := goodIn_r _ [17, 18, 19, 24, 25, 26, 27, 28, 29, 30, 31, 32, 33, 34, 35, 36, 37, 38, 39, 40, 41, 42, 43, 44, 45, 46] (by decide +kernel) (by decide +kernel)
set_option maxRecDepth 20000 in
theorem gX9_blind_X9_finds : GoodIn wsX9_blind (wsV RX9 68 RX9 yX9_finds wsX9_finds) := goodIn_app (goodIn_of _ (by decide +kernel)) ggX9_blind_X9_finds
set_option maxRecDepth 20000 in
theorem ggX9_blind_X9_isBlind : GoodIn wsX9_blind wsX9_isBlind := goodIn_r _ [23, 6, 24, 25, 26, 27, 28, 29, 30, 31, 32, 33, 34, 35, 36, 37, 38, 39, 40, 41, 42, 43, 44, 45, 46] (by decide +kernel) (by decide +kernel)
set_option maxRecDepth 20000 in
theorem gX9_blind_X9_isBlind : GoodIn wsX9_blind (wsV RX9 285 RX9 yX9_isBlind wsX9_isBlind) := goodIn_app (goodIn_of _ (by decide +kernel)) ggX9_blind_X9_isBlind
theorem dX9_blind_0 : decode cX9_blind 0 = .ok (.aload_n 0, 1) := by decide +kernel
theorem dX9_blind_1 : decode cX9_blind 1 = .ok (.iload_n 1, 1) := by decide +kernel
theorem dX9_blind_2 : decode cX9_blind 2 = .ok (.invokevirtual 282, 3) := by decide +kernel
theorem dX9_blind_5 : decode cX9_blind 5 = .ok (.ifCond .eq 10, 3) := by decide +kernel
theorem dX9_blind_8 : decode cX9_blind 8 = .ok (.iload_n 2, 1) := by decide +kernel
theorem dX9_blind_9 : decode cX9_blind 9 = .ok (.invokestatic 95, 3) := by decide +kernel
theorem dX9_blind_12 : decode cX9_blind 12 = .ok (.ifCond .ne 9, 3) := by decide +kernel
theorem dX9_blind_15 : decode cX9_blind 15 = .ok (.aload_n 0, 1) := by decide +kernel
theorem dX9_blind_16 : decode cX9_blind 16 = .ok (.iconst 1, 1) := by decide +kernel
theorem dX9_blind_17 : decode cX9_blind 17 = .ok (.invokevirtual 68, 3) := by decide +kernel
theorem dX9_blind_20 : decode cX9_blind 20 = .ok (.ireturn, 1) := by decide +kernel
theorem dX9_blind_21 : decode cX9_blind 21 = .ok (.aload_n 0, 1) := by decide +kernel
theorem dX9_blind_22 : decode cX9_blind 22 = .ok (.iload_n 1, 1) := by decide +kernel
theorem dX9_blind_23 : decode cX9_blind 23 = .ok (.iload_n 2, 1) := by decide +kernel
theorem dX9_blind_24 : decode cX9_blind 24 = .ok (.bipush 10, 2) := by decide +kernel
theorem dX9_blind_26 : decode cX9_blind 26 = .ok (.idiv, 1) := by decide +kernel
theorem dX9_blind_27 : decode cX9_blind 27 = .ok (.iload_n 2, 1) := by decide +kernel
theorem dX9_blind_28 : decode cX9_blind 28 = .ok (.bipush 10, 2) := by decide +kernel
theorem dX9_blind_30 : decode cX9_blind 30 = .ok (.irem, 1) := by decide +kernel
theorem dX9_blind_31 : decode cX9_blind 31 = .ok (.invokevirtual 285, 3) := by decide +kernel
theorem dX9_blind_34 : decode cX9_blind 34 = .ok (.ifCond .eq 7, 3) := by decide +kernel
theorem dX9_blind_37 : decode cX9_blind 37 = .ok (.iconst 1, 1) := by decide +kernel
theorem dX9_blind_38 : decode cX9_blind 38 = .ok (.goto 4, 3) := by decide +kernel
theorem dX9_blind_41 : decode cX9_blind 41 = .ok (.iconst 0, 1) := by decide +kernel
theorem dX9_blind_42 : decode cX9_blind 42 = .ok (.ireturn, 1) := by decide +kernel
set_option maxRecDepth 20000 in
theorem ggX9_edge_X9_isWork : GoodIn wsX9_edge wsX9_isWork := goodIn_r _ [6, 7, 8, 9, 5, 10, 21, 22, 23, 24, 25, 26, 27, 28, 29, 30, 31, 32, 33, 34, 35, 36, 37, 38, 39, 40, 41, 42, 43] (by decide +kernel) (by decide +kernel)
set_option maxRecDepth 20000 in
theorem gX9_edge_X9_isWork : GoodIn wsX9_edge (wsV RX9 282 RX9 yX9_isWork wsX9_isWork) := goodIn_app (goodIn_of _ (by decide +kernel)) ggX9_edge_X9_isWork
set_option maxRecDepth 20000 in
theorem ggX9_edge_X9_in : GoodIn wsX9_edge wsX9_in := goodIn_r _ [10] (by decide +kernel) (by decide +kernel)
set_option maxRecDepth 20000 in
theorem gX9_edge_X9_in : GoodIn wsX9_edge (va_wsS RX9 54 yX9_in wsX9_in) := goodIn_app (goodIn_of _ (by decide +kernel)) ggX9_edge_X9_in
set_option maxRecDepth 20000 in
theorem ggX9_edge_X9_finds : GoodIn wsX9_edge wsX9_finds := goodIn_r _ [14, 15, 16, 21, 22, 23, 24, 25, 26, 27, 28, 29, 30, 31, 32, 33, 34, 35, 36, 37, 38, 39, 40, 41, 42, 43] (by decide +kernel) (by decide +kernel)
set_option maxRecDepth 20000 in
theorem gX9_edge_X9_finds : GoodIn wsX9_edge (wsV RX9 68 RX9 yX9_finds wsX9_finds) := goodIn_app (goodIn_of _ (by decide +kernel)) ggX9_edge_X9_finds
set_option maxRecDepth 20000 in
theorem ggX9_edge_X9_isBlind : GoodIn wsX9_edge wsX9_isBlind := goodIn_r _ [20, 7, 21, 22, 23, 24, 25, 26, 27, 28, 29, 30, 31, 32, 33, 34, 35, 36, 37, 38, 39, 40, 41, 42, 43] (by decide +kernel) (by decide +kernel)
set_option maxRecDepth 20000 in
theorem gX9_edge_X9_isBlind : GoodIn wsX9_edge (wsV RX9 285 RX9 yX9_isBlind wsX9_isBlind) := goodIn_app (goodIn_of _ (by decide +kernel)) ggX9_edge_X9_isBlind
theorem dX9_edge_0 : decode cX9_edge 0 = .ok (.aload_n 0, 1) := by decide +kernel
theorem dX9_edge_1 : decode cX9_edge 1 = .ok (.iload_n 1, 1) := by decide +kernel
theorem dX9_edge_2 : decode cX9_edge 2 = .ok (.invokevirtual 282, 3) := by decide +kernel
theorem dX9_edge_5 : decode cX9_edge 5 = .ok (.ifCond .eq 15, 3) := by decide +kernel
theorem dX9_edge_8 : decode cX9_edge 8 = .ok (.iload_n 2, 1) := by decide +kernel
theorem dX9_edge_9 : decode cX9_edge 9 = .ok (.i2l, 1) := by decide +kernel
theorem dX9_edge_10 : decode cX9_edge 10 = .ok (.lconst 1, 1) := by decide +kernel
theorem dX9_edge_11 : decode cX9_edge 11 = .ok (.ldc2_w 93, 3) := by decide +kernel
theorem dX9_edge_14 : decode cX9_edge 14 = .ok (.invokestatic 54, 3) := by decide +kernel
theorem dX9_edge_17 : decode cX9_edge 17 = .ok (.ifCond .ne 9, 3) := by decide +kernel
theorem dX9_edge_20 : decode cX9_edge 20 = .ok (.aload_n 0, 1) := by decide +kernel
theorem dX9_edge_21 : decode cX9_edge 21 = .ok (.iconst 1, 1) := by decide +kernel
theorem dX9_edge_22 : decode cX9_edge 22 = .ok (.invokevirtual 68, 3) := by decide +kernel
theorem dX9_edge_25 : decode cX9_edge 25 = .ok (.ireturn, 1) := by decide +kernel
theorem dX9_edge_26 : decode cX9_edge 26 = .ok (.iconst 0, 1) := by decide +kernel
theorem dX9_edge_27 : decode cX9_edge 27 = .ok (.istore_n 3, 1) := by decide +kernel
theorem dX9_edge_28 : decode cX9_edge 28 = .ok (.iload_n 3, 1) := by decide +kernel
theorem dX9_edge_29 : decode cX9_edge 29 = .ok (.iload_n 2, 1) := by decide +kernel
theorem dX9_edge_30 : decode cX9_edge 30 = .ok (.if_icmp .gt 21, 3) := by decide +kernel
theorem dX9_edge_33 : decode cX9_edge 33 = .ok (.aload_n 0, 1) := by decide +kernel
theorem dX9_edge_34 : decode cX9_edge 34 = .ok (.iload_n 1, 1) := by decide +kernel
theorem dX9_edge_35 : decode cX9_edge 35 = .ok (.iload_n 3, 1) := by decide +kernel
theorem dX9_edge_36 : decode cX9_edge 36 = .ok (.iload_n 2, 1) := by decide +kernel
theorem dX9_edge_37 : decode cX9_edge 37 = .ok (.invokevirtual 285, 3) := by decide +kernel
theorem dX9_edge_40 : decode cX9_edge 40 = .ok (.ifCond .eq 5, 3) := by decide +kernel
theorem dX9_edge_43 : decode cX9_edge 43 = .ok (.iload_n 3, 1) := by decide +kernel
theorem dX9_edge_44 : decode cX9_edge 44 = .ok (.ireturn, 1) := by decide +kernel
theorem dX9_edge_45 : decode cX9_edge 45 = .ok (.iinc 3 1, 3) := by decide +kernel
theorem dX9_edge_48 : decode cX9_edge 48 = .ok (.goto (-20), 3) := by decide +kernel
theorem dX9_edge_51 : decode cX9_edge 51 = .ok (.aload_n 0, 1) := by decide +kernel
theorem dX9_edge_52 : decode cX9_edge 52 = .ok (.iconst 2, 1) := by decide +kernel
theorem dX9_edge_53 : decode cX9_edge 53 = .ok (.invokevirtual 68, 3) := by decide +kernel
theorem dX9_edge_56 : decode cX9_edge 56 = .ok (.ireturn, 1) := by decide +kernel
set_option maxRecDepth 20000 in
theorem ggX9_takesOther_X9_gives : GoodIn wsX9_takesOther wsX9_gives := goodIn_r _ [6, 7, 8, 9, 10, 5, 11, 12, 13, 14, 15, 16, 17, 18, 19, 20, 21, 22, 23, 24, 25, 26, 27, 28, 29, 30, 31, 32, 33, 34, 35, 36, 37, 38, 39, 40, 41, 42, 43, 44, 45, 46, 47, 48, 49, 1, 50, 51, 52, 53, 54, 55, 56, 57, 58, 59, 60, 61, 62, 63, 64, 65, 66, 67, 68, 69, 70, 71, 72, 73, 74, 75, 76, 77, 78, 79, 80, 81, 82, 83, 84, 85] (by decide +kernel) (by decide +kernel)
set_option maxRecDepth 20000 in
theorem gX9_takesOther_X9_gives : GoodIn wsX9_takesOther (wsV RX9 244 RX9 yX9_gives wsX9_gives) := goodIn_app (goodIn_of _ (by decide +kernel)) ggX9_takesOther_X9_gives
theorem dX9_takesOther_0 : decode cX9_takesOther 0 = .ok (.aload_n 0, 1) := by decide +kernel
theorem dX9_takesOther_1 : decode cX9_takesOther 1 = .ok (.getfield 35, 3) := by decide +kernel
theorem dX9_takesOther_4 : decode cX9_takesOther 4 = .ok (.iconst 0, 1) := by decide +kernel
theorem dX9_takesOther_5 : decode cX9_takesOther 5 = .ok (.iload_n 2, 1) := by decide +kernel
theorem dX9_takesOther_6 : decode cX9_takesOther 6 = .ok (.iastore, 1) := by decide +kernel
theorem dX9_takesOther_7 : decode cX9_takesOther 7 = .ok (.aload_n 0, 1) := by decide +kernel
theorem dX9_takesOther_8 : decode cX9_takesOther 8 = .ok (.getfield 35, 3) := by decide +kernel
theorem dX9_takesOther_11 : decode cX9_takesOther 11 = .ok (.iconst 1, 1) := by decide +kernel
theorem dX9_takesOther_12 : decode cX9_takesOther 12 = .ok (.iload_n 3, 1) := by decide +kernel
theorem dX9_takesOther_13 : decode cX9_takesOther 13 = .ok (.iastore, 1) := by decide +kernel
theorem dX9_takesOther_14 : decode cX9_takesOther 14 = .ok (.aload_n 0, 1) := by decide +kernel
theorem dX9_takesOther_15 : decode cX9_takesOther 15 = .ok (.getfield 35, 3) := by decide +kernel
theorem dX9_takesOther_18 : decode cX9_takesOther 18 = .ok (.iconst 2, 1) := by decide +kernel
theorem dX9_takesOther_19 : decode cX9_takesOther 19 = .ok (.iload 4, 2) := by decide +kernel
theorem dX9_takesOther_21 : decode cX9_takesOther 21 = .ok (.iastore, 1) := by decide +kernel
theorem dX9_takesOther_22 : decode cX9_takesOther 22 = .ok (.aload_n 0, 1) := by decide +kernel
theorem dX9_takesOther_23 : decode cX9_takesOther 23 = .ok (.getfield 35, 3) := by decide +kernel
theorem dX9_takesOther_26 : decode cX9_takesOther 26 = .ok (.iconst 3, 1) := by decide +kernel
theorem dX9_takesOther_27 : decode cX9_takesOther 27 = .ok (.iload 5, 2) := by decide +kernel
theorem dX9_takesOther_29 : decode cX9_takesOther 29 = .ok (.bipush 10, 2) := by decide +kernel
theorem dX9_takesOther_31 : decode cX9_takesOther 31 = .ok (.idiv, 1) := by decide +kernel
theorem dX9_takesOther_32 : decode cX9_takesOther 32 = .ok (.iastore, 1) := by decide +kernel
theorem dX9_takesOther_33 : decode cX9_takesOther 33 = .ok (.aload_n 0, 1) := by decide +kernel
theorem dX9_takesOther_34 : decode cX9_takesOther 34 = .ok (.getfield 35, 3) := by decide +kernel
theorem dX9_takesOther_37 : decode cX9_takesOther 37 = .ok (.iconst 4, 1) := by decide +kernel
theorem dX9_takesOther_38 : decode cX9_takesOther 38 = .ok (.iload 5, 2) := by decide +kernel
theorem dX9_takesOther_40 : decode cX9_takesOther 40 = .ok (.bipush 10, 2) := by decide +kernel
theorem dX9_takesOther_42 : decode cX9_takesOther 42 = .ok (.irem, 1) := by decide +kernel
theorem dX9_takesOther_43 : decode cX9_takesOther 43 = .ok (.iastore, 1) := by decide +kernel
theorem dX9_takesOther_44 : decode cX9_takesOther 44 = .ok (.aload_n 0, 1) := by decide +kernel
theorem dX9_takesOther_45 : decode cX9_takesOther 45 = .ok (.bipush 6, 2) := by decide +kernel
theorem dX9_takesOther_47 : decode cX9_takesOther 47 = .ok (.iload_n 1, 1) := by decide +kernel
theorem dX9_takesOther_48 : decode cX9_takesOther 48 = .ok (.iadd, 1) := by decide +kernel
theorem dX9_takesOther_49 : decode cX9_takesOther 49 = .ok (.invokevirtual 244, 3) := by decide +kernel
theorem dX9_takesOther_52 : decode cX9_takesOther 52 = .ok (.ifCond .eq 7, 3) := by decide +kernel
theorem dX9_takesOther_55 : decode cX9_takesOther 55 = .ok (.iconst 1, 1) := by decide +kernel
theorem dX9_takesOther_56 : decode cX9_takesOther 56 = .ok (.goto 4, 3) := by decide +kernel
theorem dX9_takesOther_59 : decode cX9_takesOther 59 = .ok (.iconst 0, 1) := by decide +kernel
theorem dX9_takesOther_60 : decode cX9_takesOther 60 = .ok (.ireturn, 1) := by decide +kernel
set_option maxRecDepth 20000 in
theorem ggX9_areOfTwo_X9_takesOther : GoodIn wsX9_areOfTwo wsX9_takesOther := goodIn_r _ [5, 6, 7, 8, 9, 4, 10, 11, 12, 13, 14, 15, 16, 17, 18, 19, 20, 21, 22, 23, 24, 25, 26, 27, 28, 29, 30, 31, 32, 33, 34, 35, 36, 37, 38, 39, 40, 41, 42, 43, 44, 45, 46, 47, 48, 49, 50, 51, 52, 53, 54, 55, 56, 57, 58, 59, 60, 61, 62, 63, 64, 65, 66, 67, 68, 69, 70, 71, 72, 73, 74, 75, 76, 77, 78, 79, 80, 81, 82, 83, 84, 85, 86, 87, 88, 89] (by decide +kernel) (by decide +kernel)
set_option maxRecDepth 20000 in
theorem gX9_areOfTwo_X9_takesOther : GoodIn wsX9_areOfTwo (wsV RX9 288 RX9 yX9_takesOther wsX9_takesOther) := goodIn_app (goodIn_of _ (by decide +kernel)) ggX9_areOfTwo_X9_takesOther
theorem dX9_areOfTwo_0 : decode cX9_areOfTwo 0 = .ok (.iload_n 2, 1) := by decide +kernel
theorem dX9_areOfTwo_1 : decode cX9_areOfTwo 1 = .ok (.sipush 10000, 3) := by decide +kernel
theorem dX9_areOfTwo_4 : decode cX9_areOfTwo 4 = .ok (.idiv, 1) := by decide +kernel
theorem dX9_areOfTwo_5 : decode cX9_areOfTwo 5 = .ok (.istore_n 3, 1) := by decide +kernel
theorem dX9_areOfTwo_6 : decode cX9_areOfTwo 6 = .ok (.iload_n 2, 1) := by decide +kernel
