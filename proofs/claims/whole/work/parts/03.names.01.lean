theorem dX0_init_0 : decode cX0_init 0 = .ok (.aload_n 0, 1) := by decide +kernel
theorem dX0_init_1 : decode cX0_init 1 = .ok (.invokespecial 3, 3) := by decide +kernel
theorem dX0_init_4 : decode cX0_init 4 = .ok (.aload_n 0, 1) := by decide +kernel
theorem dX0_init_5 : decode cX0_init 5 = .ok (.iconst 0, 1) := by decide +kernel
theorem dX0_init_6 : decode cX0_init 6 = .ok (.putfield 9, 3) := by decide +kernel
theorem dX0_init_9 : decode cX0_init 9 = .ok (.aload_n 0, 1) := by decide +kernel
theorem dX0_init_10 : decode cX0_init 10 = .ok (.bipush 80, 2) := by decide +kernel
theorem dX0_init_12 : decode cX0_init 12 = .ok (.newarray .int, 2) := by decide +kernel
theorem dX0_init_14 : decode cX0_init 14 = .ok (.putfield 15, 3) := by decide +kernel
theorem dX0_init_17 : decode cX0_init 17 = .ok (.aload_n 0, 1) := by decide +kernel
theorem dX0_init_18 : decode cX0_init 18 = .ok (.bipush 80, 2) := by decide +kernel
theorem dX0_init_20 : decode cX0_init 20 = .ok (.newarray .int, 2) := by decide +kernel
theorem dX0_init_22 : decode cX0_init 22 = .ok (.putfield 19, 3) := by decide +kernel
theorem dX0_init_25 : decode cX0_init 25 = .ok (.aload_n 0, 1) := by decide +kernel
theorem dX0_init_26 : decode cX0_init 26 = .ok (.bipush 80, 2) := by decide +kernel
theorem dX0_init_28 : decode cX0_init 28 = .ok (.newarray .int, 2) := by decide +kernel
theorem dX0_init_30 : decode cX0_init 30 = .ok (.putfield 22, 3) := by decide +kernel
theorem dX0_init_33 : decode cX0_init 33 = .ok (.aload_n 0, 1) := by decide +kernel
theorem dX0_init_34 : decode cX0_init 34 = .ok (.bipush 80, 2) := by decide +kernel
theorem dX0_init_36 : decode cX0_init 36 = .ok (.newarray .int, 2) := by decide +kernel
theorem dX0_init_38 : decode cX0_init 38 = .ok (.putfield 25, 3) := by decide +kernel
theorem dX0_init_41 : decode cX0_init 41 = .ok (.aload_n 0, 1) := by decide +kernel
theorem dX0_init_42 : decode cX0_init 42 = .ok (.bipush 80, 2) := by decide +kernel
theorem dX0_init_44 : decode cX0_init 44 = .ok (.newarray .int, 2) := by decide +kernel
theorem dX0_init_46 : decode cX0_init 46 = .ok (.putfield 28, 3) := by decide +kernel
theorem dX0_init_49 : decode cX0_init 49 = .ok (.aload_n 0, 1) := by decide +kernel
theorem dX0_init_50 : decode cX0_init 50 = .ok (.bipush 80, 2) := by decide +kernel
theorem dX0_init_52 : decode cX0_init 52 = .ok (.newarray .int, 2) := by decide +kernel
theorem dX0_init_54 : decode cX0_init 54 = .ok (.putfield 31, 3) := by decide +kernel
theorem dX0_init_57 : decode cX0_init 57 = .ok (.aload_n 0, 1) := by decide +kernel
theorem dX0_init_58 : decode cX0_init 58 = .ok (.bipush 80, 2) := by decide +kernel
theorem dX0_init_60 : decode cX0_init 60 = .ok (.newarray .int, 2) := by decide +kernel
theorem dX0_init_62 : decode cX0_init 62 = .ok (.putfield 34, 3) := by decide +kernel
theorem dX0_init_65 : decode cX0_init 65 = .ok (.aload_n 0, 1) := by decide +kernel
theorem dX0_init_66 : decode cX0_init 66 = .ok (.bipush 80, 2) := by decide +kernel
theorem dX0_init_68 : decode cX0_init 68 = .ok (.newarray .int, 2) := by decide +kernel
theorem dX0_init_70 : decode cX0_init 70 = .ok (.putfield 37, 3) := by decide +kernel
theorem dX0_init_73 : decode cX0_init 73 = .ok (.aload_n 0, 1) := by decide +kernel
theorem dX0_init_74 : decode cX0_init 74 = .ok (.iconst 0, 1) := by decide +kernel
theorem dX0_init_75 : decode cX0_init 75 = .ok (.putfield 40, 3) := by decide +kernel
theorem dX0_init_78 : decode cX0_init 78 = .ok (.aload_n 0, 1) := by decide +kernel
theorem dX0_init_79 : decode cX0_init 79 = .ok (.bipush 80, 2) := by decide +kernel
theorem dX0_init_81 : decode cX0_init 81 = .ok (.newarray .int, 2) := by decide +kernel
theorem dX0_init_83 : decode cX0_init 83 = .ok (.putfield 43, 3) := by decide +kernel
theorem dX0_init_86 : decode cX0_init 86 = .ok (.return_, 1) := by decide +kernel
set_option maxRecDepth 20000 in
theorem ggX0_add_X0_deepest : GoodIn wsX0_add wsX0_deepest := goodIn_r _ [14, 15, 7, 16, 9, 17, 18, 19, 20, 21, 22, 23, 13, 24, 4, 5, 29, 30, 31, 32, 33, 34, 35, 36, 37, 38, 39] (by decide +kernel) (by decide +kernel)
set_option maxRecDepth 20000 in
theorem gX0_add_X0_deepest : GoodIn wsX0_add (wsV RX0 46 RX0 yX0_deepest wsX0_deepest) := goodIn_app (goodIn_of _ (by decide +kernel)) ggX0_add_X0_deepest
set_option maxRecDepth 20000 in
theorem ggX0_add_X0_queue : GoodIn wsX0_add wsX0_queue := goodIn_r _ [28, 15, 7, 16, 29, 30, 31, 32, 33, 34, 35, 36, 37, 38, 39] (by decide +kernel) (by decide +kernel)
set_option maxRecDepth 20000 in
theorem gX0_add_X0_queue : GoodIn wsX0_add (wsV RX0 50 RX0 yX0_queue wsX0_queue) := goodIn_app (goodIn_of _ (by decide +kernel)) ggX0_add_X0_queue
theorem dX0_add_0 : decode cX0_add 0 = .ok (.aload_n 0, 1) := by decide +kernel
theorem dX0_add_1 : decode cX0_add 1 = .ok (.getfield 9, 3) := by decide +kernel
theorem dX0_add_4 : decode cX0_add 4 = .ok (.istore 7, 2) := by decide +kernel
theorem dX0_add_6 : decode cX0_add 6 = .ok (.iload 7, 2) := by decide +kernel
theorem dX0_add_8 : decode cX0_add 8 = .ok (.bipush 80, 2) := by decide +kernel
theorem dX0_add_10 : decode cX0_add 10 = .ok (.if_icmp .lt 5, 3) := by decide +kernel
theorem dX0_add_13 : decode cX0_add 13 = .ok (.iconst (-1), 1) := by decide +kernel
theorem dX0_add_14 : decode cX0_add 14 = .ok (.ireturn, 1) := by decide +kernel
theorem dX0_add_15 : decode cX0_add 15 = .ok (.aload_n 0, 1) := by decide +kernel
theorem dX0_add_16 : decode cX0_add 16 = .ok (.getfield 15, 3) := by decide +kernel
theorem dX0_add_19 : decode cX0_add 19 = .ok (.iload 7, 2) := by decide +kernel
theorem dX0_add_21 : decode cX0_add 21 = .ok (.iload_n 1, 1) := by decide +kernel
theorem dX0_add_22 : decode cX0_add 22 = .ok (.iastore, 1) := by decide +kernel
theorem dX0_add_23 : decode cX0_add 23 = .ok (.aload_n 0, 1) := by decide +kernel
theorem dX0_add_24 : decode cX0_add 24 = .ok (.getfield 19, 3) := by decide +kernel
theorem dX0_add_27 : decode cX0_add 27 = .ok (.iload 7, 2) := by decide +kernel
theorem dX0_add_29 : decode cX0_add 29 = .ok (.iload_n 2, 1) := by decide +kernel
theorem dX0_add_30 : decode cX0_add 30 = .ok (.bipush 10, 2) := by decide +kernel
theorem dX0_add_32 : decode cX0_add 32 = .ok (.idiv, 1) := by decide +kernel
theorem dX0_add_33 : decode cX0_add 33 = .ok (.iastore, 1) := by decide +kernel
theorem dX0_add_34 : decode cX0_add 34 = .ok (.aload_n 0, 1) := by decide +kernel
theorem dX0_add_35 : decode cX0_add 35 = .ok (.getfield 22, 3) := by decide +kernel
theorem dX0_add_38 : decode cX0_add 38 = .ok (.iload 7, 2) := by decide +kernel
theorem dX0_add_40 : decode cX0_add 40 = .ok (.iload_n 2, 1) := by decide +kernel
theorem dX0_add_41 : decode cX0_add 41 = .ok (.bipush 10, 2) := by decide +kernel
theorem dX0_add_43 : decode cX0_add 43 = .ok (.irem, 1) := by decide +kernel
theorem dX0_add_44 : decode cX0_add 44 = .ok (.iastore, 1) := by decide +kernel
theorem dX0_add_45 : decode cX0_add 45 = .ok (.aload_n 0, 1) := by decide +kernel
theorem dX0_add_46 : decode cX0_add 46 = .ok (.getfield 25, 3) := by decide +kernel
theorem dX0_add_49 : decode cX0_add 49 = .ok (.iload 7, 2) := by decide +kernel
theorem dX0_add_51 : decode cX0_add 51 = .ok (.iload_n 3, 1) := by decide +kernel
theorem dX0_add_52 : decode cX0_add 52 = .ok (.iastore, 1) := by decide +kernel
theorem dX0_add_53 : decode cX0_add 53 = .ok (.aload_n 0, 1) := by decide +kernel
theorem dX0_add_54 : decode cX0_add 54 = .ok (.getfield 28, 3) := by decide +kernel
theorem dX0_add_57 : decode cX0_add 57 = .ok (.iload 7, 2) := by decide +kernel
theorem dX0_add_59 : decode cX0_add 59 = .ok (.iload 4, 2) := by decide +kernel
theorem dX0_add_61 : decode cX0_add 61 = .ok (.iastore, 1) := by decide +kernel
theorem dX0_add_62 : decode cX0_add 62 = .ok (.aload_n 0, 1) := by decide +kernel
theorem dX0_add_63 : decode cX0_add 63 = .ok (.getfield 31, 3) := by decide +kernel
theorem dX0_add_66 : decode cX0_add 66 = .ok (.iload 7, 2) := by decide +kernel
theorem dX0_add_68 : decode cX0_add 68 = .ok (.iload 5, 2) := by decide +kernel
theorem dX0_add_70 : decode cX0_add 70 = .ok (.iastore, 1) := by decide +kernel
theorem dX0_add_71 : decode cX0_add 71 = .ok (.aload_n 0, 1) := by decide +kernel
theorem dX0_add_72 : decode cX0_add 72 = .ok (.getfield 34, 3) := by decide +kernel
theorem dX0_add_75 : decode cX0_add 75 = .ok (.iload 7, 2) := by decide +kernel
theorem dX0_add_77 : decode cX0_add 77 = .ok (.iload 6, 2) := by decide +kernel
theorem dX0_add_79 : decode cX0_add 79 = .ok (.iastore, 1) := by decide +kernel
theorem dX0_add_80 : decode cX0_add 80 = .ok (.aload_n 0, 1) := by decide +kernel
theorem dX0_add_81 : decode cX0_add 81 = .ok (.getfield 37, 3) := by decide +kernel
theorem dX0_add_84 : decode cX0_add 84 = .ok (.iload 7, 2) := by decide +kernel
theorem dX0_add_86 : decode cX0_add 86 = .ok (.iconst 1, 1) := by decide +kernel
theorem dX0_add_87 : decode cX0_add 87 = .ok (.aload_n 0, 1) := by decide +kernel
theorem dX0_add_88 : decode cX0_add 88 = .ok (.aload_n 0, 1) := by decide +kernel
theorem dX0_add_89 : decode cX0_add 89 = .ok (.getfield 19, 3) := by decide +kernel
theorem dX0_add_92 : decode cX0_add 92 = .ok (.iload 7, 2) := by decide +kernel
theorem dX0_add_94 : decode cX0_add 94 = .ok (.iaload, 1) := by decide +kernel
theorem dX0_add_95 : decode cX0_add 95 = .ok (.iload_n 3, 1) := by decide +kernel
theorem dX0_add_96 : decode cX0_add 96 = .ok (.iload 4, 2) := by decide +kernel
theorem dX0_add_98 : decode cX0_add 98 = .ok (.invokevirtual 46, 3) := by decide +kernel
theorem dX0_add_101 : decode cX0_add 101 = .ok (.iadd, 1) := by decide +kernel
theorem dX0_add_102 : decode cX0_add 102 = .ok (.iastore, 1) := by decide +kernel
theorem dX0_add_103 : decode cX0_add 103 = .ok (.aload_n 0, 1) := by decide +kernel
theorem dX0_add_104 : decode cX0_add 104 = .ok (.dup, 1) := by decide +kernel
theorem dX0_add_105 : decode cX0_add 105 = .ok (.getfield 9, 3) := by decide +kernel
theorem dX0_add_108 : decode cX0_add 108 = .ok (.iconst 1, 1) := by decide +kernel
theorem dX0_add_109 : decode cX0_add 109 = .ok (.iadd, 1) := by decide +kernel
theorem dX0_add_110 : decode cX0_add 110 = .ok (.putfield 9, 3) := by decide +kernel
theorem dX0_add_113 : decode cX0_add 113 = .ok (.iload 5, 2) := by decide +kernel
theorem dX0_add_115 : decode cX0_add 115 = .ok (.ifCond .lt 9, 3) := by decide +kernel
theorem dX0_add_118 : decode cX0_add 118 = .ok (.aload_n 0, 1) := by decide +kernel
theorem dX0_add_119 : decode cX0_add 119 = .ok (.iload 7, 2) := by decide +kernel
theorem dX0_add_121 : decode cX0_add 121 = .ok (.invokevirtual 50, 3) := by decide +kernel
theorem dX0_add_124 : decode cX0_add 124 = .ok (.iload 7, 2) := by decide +kernel
theorem dX0_add_126 : decode cX0_add 126 = .ok (.ireturn, 1) := by decide +kernel
theorem dX0_drop_0 : decode cX0_drop 0 = .ok (.aload_n 0, 1) := by decide +kernel
theorem dX0_drop_1 : decode cX0_drop 1 = .ok (.getfield 31, 3) := by decide +kernel
theorem dX0_drop_4 : decode cX0_drop 4 = .ok (.iload_n 1, 1) := by decide +kernel
theorem dX0_drop_5 : decode cX0_drop 5 = .ok (.iconst (-1), 1) := by decide +kernel
theorem dX0_drop_6 : decode cX0_drop 6 = .ok (.iastore, 1) := by decide +kernel
theorem dX0_drop_7 : decode cX0_drop 7 = .ok (.iconst 0, 1) := by decide +kernel
theorem dX0_drop_8 : decode cX0_drop 8 = .ok (.istore_n 2, 1) := by decide +kernel
theorem dX0_drop_9 : decode cX0_drop 9 = .ok (.iconst 0, 1) := by decide +kernel
theorem dX0_drop_10 : decode cX0_drop 10 = .ok (.istore_n 3, 1) := by decide +kernel
theorem dX0_drop_11 : decode cX0_drop 11 = .ok (.iload_n 3, 1) := by decide +kernel
theorem dX0_drop_12 : decode cX0_drop 12 = .ok (.aload_n 0, 1) := by decide +kernel
theorem dX0_drop_13 : decode cX0_drop 13 = .ok (.getfield 40, 3) := by decide +kernel
theorem dX0_drop_16 : decode cX0_drop 16 = .ok (.if_icmp .ge 34, 3) := by decide +kernel
theorem dX0_drop_19 : decode cX0_drop 19 = .ok (.aload_n 0, 1) := by decide +kernel
theorem dX0_drop_20 : decode cX0_drop 20 = .ok (.getfield 43, 3) := by decide +kernel
theorem dX0_drop_23 : decode cX0_drop 23 = .ok (.iload_n 3, 1) := by decide +kernel
theorem dX0_drop_24 : decode cX0_drop 24 = .ok (.iaload, 1) := by decide +kernel
theorem dX0_drop_25 : decode cX0_drop 25 = .ok (.iload_n 1, 1) := by decide +kernel
theorem dX0_drop_26 : decode cX0_drop 26 = .ok (.if_icmp .eq 18, 3) := by decide +kernel
theorem dX0_drop_29 : decode cX0_drop 29 = .ok (.aload_n 0, 1) := by decide +kernel
theorem dX0_drop_30 : decode cX0_drop 30 = .ok (.getfield 43, 3) := by decide +kernel
theorem dX0_drop_33 : decode cX0_drop 33 = .ok (.iload_n 2, 1) := by decide +kernel
theorem dX0_drop_34 : decode cX0_drop 34 = .ok (.aload_n 0, 1) := by decide +kernel
theorem dX0_drop_35 : decode cX0_drop 35 = .ok (.getfield 43, 3) := by decide +kernel
theorem dX0_drop_38 : decode cX0_drop 38 = .ok (.iload_n 3, 1) := by decide +kernel
theorem dX0_drop_39 : decode cX0_drop 39 = .ok (.iaload, 1) := by decide +kernel
theorem dX0_drop_40 : decode cX0_drop 40 = .ok (.iastore, 1) := by decide +kernel
theorem dX0_drop_41 : decode cX0_drop 41 = .ok (.iinc 2 1, 3) := by decide +kernel
theorem dX0_drop_44 : decode cX0_drop 44 = .ok (.iinc 3 1, 3) := by decide +kernel
theorem dX0_drop_47 : decode cX0_drop 47 = .ok (.goto (-36), 3) := by decide +kernel
theorem dX0_drop_50 : decode cX0_drop 50 = .ok (.aload_n 0, 1) := by decide +kernel
theorem dX0_drop_51 : decode cX0_drop 51 = .ok (.iload_n 2, 1) := by decide +kernel
theorem dX0_drop_52 : decode cX0_drop 52 = .ok (.putfield 40, 3) := by decide +kernel
theorem dX0_drop_55 : decode cX0_drop 55 = .ok (.return_, 1) := by decide +kernel
theorem dX0_isFor_0 : decode cX0_isFor 0 = .ok (.aload_n 0, 1) := by decide +kernel
theorem dX0_isFor_1 : decode cX0_isFor 1 = .ok (.getfield 22, 3) := by decide +kernel
theorem dX0_isFor_4 : decode cX0_isFor 4 = .ok (.iload_n 1, 1) := by decide +kernel
theorem dX0_isFor_5 : decode cX0_isFor 5 = .ok (.iaload, 1) := by decide +kernel
theorem dX0_isFor_6 : decode cX0_isFor 6 = .ok (.iload_n 2, 1) := by decide +kernel
theorem dX0_isFor_7 : decode cX0_isFor 7 = .ok (.if_icmp .ne 17, 3) := by decide +kernel
theorem dX0_isFor_10 : decode cX0_isFor 10 = .ok (.aload_n 0, 1) := by decide +kernel
theorem dX0_isFor_11 : decode cX0_isFor 11 = .ok (.getfield 25, 3) := by decide +kernel
theorem dX0_isFor_14 : decode cX0_isFor 14 = .ok (.iload_n 1, 1) := by decide +kernel
theorem dX0_isFor_15 : decode cX0_isFor 15 = .ok (.iaload, 1) := by decide +kernel
theorem dX0_isFor_16 : decode cX0_isFor 16 = .ok (.iload_n 3, 1) := by decide +kernel
theorem dX0_isFor_17 : decode cX0_isFor 17 = .ok (.if_icmp .ne 7, 3) := by decide +kernel
theorem dX0_isFor_20 : decode cX0_isFor 20 = .ok (.iconst 1, 1) := by decide +kernel
theorem dX0_isFor_21 : decode cX0_isFor 21 = .ok (.goto 4, 3) := by decide +kernel
theorem dX0_isFor_24 : decode cX0_isFor 24 = .ok (.iconst 0, 1) := by decide +kernel
theorem dX0_isFor_25 : decode cX0_isFor 25 = .ok (.ireturn, 1) := by decide +kernel
theorem dX0_isBy_0 : decode cX0_isBy 0 = .ok (.aload_n 0, 1) := by decide +kernel
theorem dX0_isBy_1 : decode cX0_isBy 1 = .ok (.getfield 19, 3) := by decide +kernel
theorem dX0_isBy_4 : decode cX0_isBy 4 = .ok (.iload_n 1, 1) := by decide +kernel
theorem dX0_isBy_5 : decode cX0_isBy 5 = .ok (.iaload, 1) := by decide +kernel
theorem dX0_isBy_6 : decode cX0_isBy 6 = .ok (.iload_n 2, 1) := by decide +kernel
theorem dX0_isBy_7 : decode cX0_isBy 7 = .ok (.if_icmp .ne 17, 3) := by decide +kernel
theorem dX0_isBy_10 : decode cX0_isBy 10 = .ok (.aload_n 0, 1) := by decide +kernel
theorem dX0_isBy_11 : decode cX0_isBy 11 = .ok (.getfield 25, 3) := by decide +kernel
theorem dX0_isBy_14 : decode cX0_isBy 14 = .ok (.iload_n 1, 1) := by decide +kernel
theorem dX0_isBy_15 : decode cX0_isBy 15 = .ok (.iaload, 1) := by decide +kernel
theorem dX0_isBy_16 : decode cX0_isBy 16 = .ok (.iload_n 3, 1) := by decide +kernel
theorem dX0_isBy_17 : decode cX0_isBy 17 = .ok (.if_icmp .ne 7, 3) := by decide +kernel
theorem dX0_isBy_20 : decode cX0_isBy 20 = .ok (.iconst 1, 1) := by decide +kernel
theorem dX0_isBy_21 : decode cX0_isBy 21 = .ok (.goto 4, 3) := by decide +kernel
theorem dX0_isBy_24 : decode cX0_isBy 24 = .ok (.iconst 0, 1) := by decide +kernel
theorem dX0_isBy_25 : decode cX0_isBy 25 = .ok (.ireturn, 1) := by decide +kernel
set_option maxRecDepth 20000 in
theorem ggX0_arrived_X0_isFor : GoodIn wsX0_arrived wsX0_isFor := goodIn_r _ [8, 9, 10, 11, 12, 13, 14, 15, 16, 17, 18, 19, 20, 21] (by decide +kernel) (by decide +kernel)
set_option maxRecDepth 20000 in
theorem gX0_arrived_X0_isFor : GoodIn wsX0_arrived (wsV RX0 54 RX0 yX0_isFor wsX0_isFor) := goodIn_app (goodIn_of _ (by decide +kernel)) ggX0_arrived_X0_isFor
theorem dX0_arrived_0 : decode cX0_arrived 0 = .ok (.iconst 0, 1) := by decide +kernel
theorem dX0_arrived_1 : decode cX0_arrived 1 = .ok (.istore 4, 2) := by decide +kernel
theorem dX0_arrived_3 : decode cX0_arrived 3 = .ok (.iconst 0, 1) := by decide +kernel
theorem dX0_arrived_4 : decode cX0_arrived 4 = .ok (.istore 5, 2) := by decide +kernel
theorem dX0_arrived_6 : decode cX0_arrived 6 = .ok (.iload 5, 2) := by decide +kernel
theorem dX0_arrived_8 : decode cX0_arrived 8 = .ok (.aload_n 0, 1) := by decide +kernel
theorem dX0_arrived_9 : decode cX0_arrived 9 = .ok (.getfield 40, 3) := by decide +kernel
theorem dX0_arrived_12 : decode cX0_arrived 12 = .ok (.if_icmp .ge 44, 3) := by decide +kernel
theorem dX0_arrived_15 : decode cX0_arrived 15 = .ok (.aload_n 0, 1) := by decide +kernel
theorem dX0_arrived_16 : decode cX0_arrived 16 = .ok (.getfield 31, 3) := by decide +kernel
theorem dX0_arrived_19 : decode cX0_arrived 19 = .ok (.aload_n 0, 1) := by decide +kernel
theorem dX0_arrived_20 : decode cX0_arrived 20 = .ok (.getfield 43, 3) := by decide +kernel
theorem dX0_arrived_23 : decode cX0_arrived 23 = .ok (.iload 5, 2) := by decide +kernel
theorem dX0_arrived_25 : decode cX0_arrived 25 = .ok (.iaload, 1) := by decide +kernel
theorem dX0_arrived_26 : decode cX0_arrived 26 = .ok (.iaload, 1) := by decide +kernel
theorem dX0_arrived_27 : decode cX0_arrived 27 = .ok (.iload_n 3, 1) := by decide +kernel
theorem dX0_arrived_28 : decode cX0_arrived 28 = .ok (.if_icmp .gt 28, 3) := by decide +kernel
theorem dX0_arrived_31 : decode cX0_arrived 31 = .ok (.aload_n 0, 1) := by decide +kernel
theorem dX0_arrived_32 : decode cX0_arrived 32 = .ok (.aload_n 0, 1) := by decide +kernel
theorem dX0_arrived_33 : decode cX0_arrived 33 = .ok (.getfield 43, 3) := by decide +kernel
theorem dX0_arrived_36 : decode cX0_arrived 36 = .ok (.iload 5, 2) := by decide +kernel
theorem dX0_arrived_38 : decode cX0_arrived 38 = .ok (.iaload, 1) := by decide +kernel
theorem dX0_arrived_39 : decode cX0_arrived 39 = .ok (.iload_n 1, 1) := by decide +kernel
theorem dX0_arrived_40 : decode cX0_arrived 40 = .ok (.iload_n 2, 1) := by decide +kernel
theorem dX0_arrived_41 : decode cX0_arrived 41 = .ok (.invokevirtual 54, 3) := by decide +kernel
theorem dX0_arrived_44 : decode cX0_arrived 44 = .ok (.ifCond .eq 6, 3) := by decide +kernel
theorem dX0_arrived_47 : decode cX0_arrived 47 = .ok (.iinc 4 1, 3) := by decide +kernel
theorem dX0_arrived_50 : decode cX0_arrived 50 = .ok (.iinc 5 1, 3) := by decide +kernel
theorem dX0_arrived_53 : decode cX0_arrived 53 = .ok (.goto (-47), 3) := by decide +kernel
theorem dX0_arrived_56 : decode cX0_arrived 56 = .ok (.iload 4, 2) := by decide +kernel
theorem dX0_arrived_58 : decode cX0_arrived 58 = .ok (.ireturn, 1) := by decide +kernel
set_option maxRecDepth 20000 in
theorem ggX0_deepest_X0_isFor : GoodIn wsX0_deepest wsX0_isFor := goodIn_r _ [13, 14, 15, 16, 17, 18, 19, 20, 21, 22, 23, 24, 25, 26] (by decide +kernel) (by decide +kernel)
set_option maxRecDepth 20000 in
theorem gX0_deepest_X0_isFor : GoodIn wsX0_deepest (wsV RX0 54 RX0 yX0_isFor wsX0_isFor) := goodIn_app (goodIn_of _ (by decide +kernel)) ggX0_deepest_X0_isFor
theorem dX0_deepest_0 : decode cX0_deepest 0 = .ok (.iconst 0, 1) := by decide +kernel
theorem dX0_deepest_1 : decode cX0_deepest 1 = .ok (.istore 4, 2) := by decide +kernel
theorem dX0_deepest_3 : decode cX0_deepest 3 = .ok (.iconst 0, 1) := by decide +kernel
theorem dX0_deepest_4 : decode cX0_deepest 4 = .ok (.istore 5, 2) := by decide +kernel
theorem dX0_deepest_6 : decode cX0_deepest 6 = .ok (.iload 5, 2) := by decide +kernel
theorem dX0_deepest_8 : decode cX0_deepest 8 = .ok (.aload_n 0, 1) := by decide +kernel
theorem dX0_deepest_9 : decode cX0_deepest 9 = .ok (.getfield 40, 3) := by decide +kernel
theorem dX0_deepest_12 : decode cX0_deepest 12 = .ok (.if_icmp .ge 60, 3) := by decide +kernel
theorem dX0_deepest_15 : decode cX0_deepest 15 = .ok (.aload_n 0, 1) := by decide +kernel
theorem dX0_deepest_16 : decode cX0_deepest 16 = .ok (.getfield 31, 3) := by decide +kernel
theorem dX0_deepest_19 : decode cX0_deepest 19 = .ok (.aload_n 0, 1) := by decide +kernel
theorem dX0_deepest_20 : decode cX0_deepest 20 = .ok (.getfield 43, 3) := by decide +kernel
theorem dX0_deepest_23 : decode cX0_deepest 23 = .ok (.iload 5, 2) := by decide +kernel
theorem dX0_deepest_25 : decode cX0_deepest 25 = .ok (.iaload, 1) := by decide +kernel
theorem dX0_deepest_26 : decode cX0_deepest 26 = .ok (.iaload, 1) := by decide +kernel
theorem dX0_deepest_27 : decode cX0_deepest 27 = .ok (.iload_n 3, 1) := by decide +kernel
theorem dX0_deepest_28 : decode cX0_deepest 28 = .ok (.if_icmp .gt 44, 3) := by decide +kernel
theorem dX0_deepest_31 : decode cX0_deepest 31 = .ok (.aload_n 0, 1) := by decide +kernel
theorem dX0_deepest_32 : decode cX0_deepest 32 = .ok (.aload_n 0, 1) := by decide +kernel
theorem dX0_deepest_33 : decode cX0_deepest 33 = .ok (.getfield 43, 3) := by decide +kernel
theorem dX0_deepest_36 : decode cX0_deepest 36 = .ok (.iload 5, 2) := by decide +kernel
theorem dX0_deepest_38 : decode cX0_deepest 38 = .ok (.iaload, 1) := by decide +kernel
theorem dX0_deepest_39 : decode cX0_deepest 39 = .ok (.iload_n 1, 1) := by decide +kernel
theorem dX0_deepest_40 : decode cX0_deepest 40 = .ok (.iload_n 2, 1) := by decide +kernel
theorem dX0_deepest_41 : decode cX0_deepest 41 = .ok (.invokevirtual 54, 3) := by decide +kernel
theorem dX0_deepest_44 : decode cX0_deepest 44 = .ok (.ifCond .eq 22, 3) := by decide +kernel
theorem dX0_deepest_47 : decode cX0_deepest 47 = .ok (.iload 4, 2) := by decide +kernel
theorem dX0_deepest_49 : decode cX0_deepest 49 = .ok (.aload_n 0, 1) := by decide +kernel
theorem dX0_deepest_50 : decode cX0_deepest 50 = .ok (.getfield 37, 3) := by decide +kernel
theorem dX0_deepest_53 : decode cX0_deepest 53 = .ok (.aload_n 0, 1) := by decide +kernel
theorem dX0_deepest_54 : decode cX0_deepest 54 = .ok (.getfield 43, 3) := by decide +kernel
theorem dX0_deepest_57 : decode cX0_deepest 57 = .ok (.iload 5, 2) := by decide +kernel
theorem dX0_deepest_59 : decode cX0_deepest 59 = .ok (.iaload, 1) := by decide +kernel
theorem dX0_deepest_60 : decode cX0_deepest 60 = .ok (.iaload, 1) := by decide +kernel
theorem dX0_deepest_61 : decode cX0_deepest 61 = .ok (.invokestatic 58, 3) := by decide +kernel
theorem dX0_deepest_64 : decode cX0_deepest 64 = .ok (.istore 4, 2) := by decide +kernel
theorem dX0_deepest_66 : decode cX0_deepest 66 = .ok (.iinc 5 1, 3) := by decide +kernel
theorem dX0_deepest_69 : decode cX0_deepest 69 = .ok (.goto (-63), 3) := by decide +kernel
theorem dX0_deepest_72 : decode cX0_deepest 72 = .ok (.iload 4, 2) := by decide +kernel
theorem dX0_deepest_74 : decode cX0_deepest 74 = .ok (.ireturn, 1) := by decide +kernel
set_option maxRecDepth 20000 in
theorem ggX0_latestKind_X0_isFor : GoodIn wsX0_latestKind wsX0_isFor := goodIn_r _ [9, 10, 11, 12, 13, 14, 15, 16, 17, 18, 19, 20, 21, 22] (by decide +kernel) (by decide +kernel)
set_option maxRecDepth 20000 in
theorem gX0_latestKind_X0_isFor : GoodIn wsX0_latestKind (wsV RX0 54 RX0 yX0_isFor wsX0_isFor) := goodIn_app (goodIn_of _ (by decide +kernel)) ggX0_latestKind_X0_isFor
theorem dX0_latestKind_0 : decode cX0_latestKind 0 = .ok (.bipush 9, 2) := by decide +kernel
theorem dX0_latestKind_2 : decode cX0_latestKind 2 = .ok (.istore 4, 2) := by decide +kernel
theorem dX0_latestKind_4 : decode cX0_latestKind 4 = .ok (.iconst 0, 1) := by decide +kernel
theorem dX0_latestKind_5 : decode cX0_latestKind 5 = .ok (.istore 5, 2) := by decide +kernel
theorem dX0_latestKind_7 : decode cX0_latestKind 7 = .ok (.iload 5, 2) := by decide +kernel
theorem dX0_latestKind_9 : decode cX0_latestKind 9 = .ok (.aload_n 0, 1) := by decide +kernel
theorem dX0_latestKind_10 : decode cX0_latestKind 10 = .ok (.getfield 40, 3) := by decide +kernel
theorem dX0_latestKind_13 : decode cX0_latestKind 13 = .ok (.if_icmp .ge 55, 3) := by decide +kernel
theorem dX0_latestKind_16 : decode cX0_latestKind 16 = .ok (.aload_n 0, 1) := by decide +kernel
theorem dX0_latestKind_17 : decode cX0_latestKind 17 = .ok (.getfield 31, 3) := by decide +kernel
theorem dX0_latestKind_20 : decode cX0_latestKind 20 = .ok (.aload_n 0, 1) := by decide +kernel
theorem dX0_latestKind_21 : decode cX0_latestKind 21 = .ok (.getfield 43, 3) := by decide +kernel
theorem dX0_latestKind_24 : decode cX0_latestKind 24 = .ok (.iload 5, 2) := by decide +kernel
theorem dX0_latestKind_26 : decode cX0_latestKind 26 = .ok (.iaload, 1) := by decide +kernel
theorem dX0_latestKind_27 : decode cX0_latestKind 27 = .ok (.iaload, 1) := by decide +kernel
theorem dX0_latestKind_28 : decode cX0_latestKind 28 = .ok (.iload_n 3, 1) := by decide +kernel
theorem dX0_latestKind_29 : decode cX0_latestKind 29 = .ok (.if_icmp .gt 39, 3) := by decide +kernel
theorem dX0_latestKind_32 : decode cX0_latestKind 32 = .ok (.aload_n 0, 1) := by decide +kernel
theorem dX0_latestKind_33 : decode cX0_latestKind 33 = .ok (.aload_n 0, 1) := by decide +kernel
theorem dX0_latestKind_34 : decode cX0_latestKind 34 = .ok (.getfield 43, 3) := by decide +kernel
theorem dX0_latestKind_37 : decode cX0_latestKind 37 = .ok (.iload 5, 2) := by decide +kernel
theorem dX0_latestKind_39 : decode cX0_latestKind 39 = .ok (.iaload, 1) := by decide +kernel
theorem dX0_latestKind_40 : decode cX0_latestKind 40 = .ok (.iload_n 1, 1) := by decide +kernel
theorem dX0_latestKind_41 : decode cX0_latestKind 41 = .ok (.iload_n 2, 1) := by decide +kernel
theorem dX0_latestKind_42 : decode cX0_latestKind 42 = .ok (.invokevirtual 54, 3) := by decide +kernel
theorem dX0_latestKind_45 : decode cX0_latestKind 45 = .ok (.ifCond .eq 17, 3) := by decide +kernel
theorem dX0_latestKind_48 : decode cX0_latestKind 48 = .ok (.aload_n 0, 1) := by decide +kernel
theorem dX0_latestKind_49 : decode cX0_latestKind 49 = .ok (.getfield 15, 3) := by decide +kernel
theorem dX0_latestKind_52 : decode cX0_latestKind 52 = .ok (.aload_n 0, 1) := by decide +kernel
theorem dX0_latestKind_53 : decode cX0_latestKind 53 = .ok (.getfield 43, 3) := by decide +kernel
theorem dX0_latestKind_56 : decode cX0_latestKind 56 = .ok (.iload 5, 2) := by decide +kernel
theorem dX0_latestKind_58 : decode cX0_latestKind 58 = .ok (.iaload, 1) := by decide +kernel
theorem dX0_latestKind_59 : decode cX0_latestKind 59 = .ok (.iaload, 1) := by decide +kernel
theorem dX0_latestKind_60 : decode cX0_latestKind 60 = .ok (.istore 4, 2) := by decide +kernel
theorem dX0_latestKind_62 : decode cX0_latestKind 62 = .ok (.iinc 5 1, 3) := by decide +kernel
theorem dX0_latestKind_65 : decode cX0_latestKind 65 = .ok (.goto (-58), 3) := by decide +kernel
theorem dX0_latestKind_68 : decode cX0_latestKind 68 = .ok (.iload 4, 2) := by decide +kernel
theorem dX0_latestKind_70 : decode cX0_latestKind 70 = .ok (.ireturn, 1) := by decide +kernel
theorem dX0_lastYear_0 : decode cX0_lastYear 0 = .ok (.aload_n 0, 1) := by decide +kernel
theorem dX0_lastYear_1 : decode cX0_lastYear 1 = .ok (.getfield 28, 3) := by decide +kernel
theorem dX0_lastYear_4 : decode cX0_lastYear 4 = .ok (.iload_n 1, 1) := by decide +kernel
theorem dX0_lastYear_5 : decode cX0_lastYear 5 = .ok (.iaload, 1) := by decide +kernel
theorem dX0_lastYear_6 : decode cX0_lastYear 6 = .ok (.aload_n 0, 1) := by decide +kernel
theorem dX0_lastYear_7 : decode cX0_lastYear 7 = .ok (.getfield 34, 3) := by decide +kernel
theorem dX0_lastYear_10 : decode cX0_lastYear 10 = .ok (.iload_n 1, 1) := by decide +kernel
theorem dX0_lastYear_11 : decode cX0_lastYear 11 = .ok (.iaload, 1) := by decide +kernel
theorem dX0_lastYear_12 : decode cX0_lastYear 12 = .ok (.iadd, 1) := by decide +kernel
theorem dX0_lastYear_13 : decode cX0_lastYear 13 = .ok (.ireturn, 1) := by decide +kernel
theorem dX0_become_0 : decode cX0_become 0 = .ok (.aload_n 0, 1) := by decide +kernel
theorem dX0_become_1 : decode cX0_become 1 = .ok (.aload_n 1, 1) := by decide +kernel
theorem dX0_become_2 : decode cX0_become 2 = .ok (.getfield 9, 3) := by decide +kernel
theorem dX0_become_5 : decode cX0_become 5 = .ok (.putfield 9, 3) := by decide +kernel
theorem dX0_become_8 : decode cX0_become 8 = .ok (.aload_n 0, 1) := by decide +kernel
theorem dX0_become_9 : decode cX0_become 9 = .ok (.aload_n 1, 1) := by decide +kernel
theorem dX0_become_10 : decode cX0_become 10 = .ok (.getfield 40, 3) := by decide +kernel
theorem dX0_become_13 : decode cX0_become 13 = .ok (.putfield 40, 3) := by decide +kernel
theorem dX0_become_16 : decode cX0_become 16 = .ok (.aload_n 1, 1) := by decide +kernel
theorem dX0_become_17 : decode cX0_become 17 = .ok (.getfield 15, 3) := by decide +kernel
theorem dX0_become_20 : decode cX0_become 20 = .ok (.iconst 0, 1) := by decide +kernel
theorem dX0_become_21 : decode cX0_become 21 = .ok (.aload_n 0, 1) := by decide +kernel
theorem dX0_become_22 : decode cX0_become 22 = .ok (.getfield 15, 3) := by decide +kernel
theorem dX0_become_25 : decode cX0_become 25 = .ok (.iconst 0, 1) := by decide +kernel
theorem dX0_become_26 : decode cX0_become 26 = .ok (.bipush 80, 2) := by decide +kernel
theorem dX0_become_28 : decode cX0_become 28 = .ok (.invokestatic 64, 3) := by decide +kernel
theorem dX0_become_31 : decode cX0_become 31 = .ok (.aload_n 1, 1) := by decide +kernel
theorem dX0_become_32 : decode cX0_become 32 = .ok (.getfield 19, 3) := by decide +kernel
theorem dX0_become_35 : decode cX0_become 35 = .ok (.iconst 0, 1) := by decide +kernel
theorem dX0_become_36 : decode cX0_become 36 = .ok (.aload_n 0, 1) := by decide +kernel
theorem dX0_become_37 : decode cX0_become 37 = .ok (.getfield 19, 3) := by decide +kernel
theorem dX0_become_40 : decode cX0_become 40 = .ok (.iconst 0, 1) := by decide +kernel
theorem dX0_become_41 : decode cX0_become 41 = .ok (.bipush 80, 2) := by decide +kernel
theorem dX0_become_43 : decode cX0_become 43 = .ok (.invokestatic 64, 3) := by decide +kernel
theorem dX0_become_46 : decode cX0_become 46 = .ok (.aload_n 1, 1) := by decide +kernel
theorem dX0_become_47 : decode cX0_become 47 = .ok (.getfield 22, 3) := by decide +kernel
theorem dX0_become_50 : decode cX0_become 50 = .ok (.iconst 0, 1) := by decide +kernel
theorem dX0_become_51 : decode cX0_become 51 = .ok (.aload_n 0, 1) := by decide +kernel
theorem dX0_become_52 : decode cX0_become 52 = .ok (.getfield 22, 3) := by decide +kernel
theorem dX0_become_55 : decode cX0_become 55 = .ok (.iconst 0, 1) := by decide +kernel
theorem dX0_become_56 : decode cX0_become 56 = .ok (.bipush 80, 2) := by decide +kernel
theorem dX0_become_58 : decode cX0_become 58 = .ok (.invokestatic 64, 3) := by decide +kernel
theorem dX0_become_61 : decode cX0_become 61 = .ok (.aload_n 1, 1) := by decide +kernel
theorem dX0_become_62 : decode cX0_become 62 = .ok (.getfield 25, 3) := by decide +kernel
theorem dX0_become_65 : decode cX0_become 65 = .ok (.iconst 0, 1) := by decide +kernel
theorem dX0_become_66 : decode cX0_become 66 = .ok (.aload_n 0, 1) := by decide +kernel
theorem dX0_become_67 : decode cX0_become 67 = .ok (.getfield 25, 3) := by decide +kernel
theorem dX0_become_70 : decode cX0_become 70 = .ok (.iconst 0, 1) := by decide +kernel
theorem dX0_become_71 : decode cX0_become 71 = .ok (.bipush 80, 2) := by decide +kernel
theorem dX0_become_73 : decode cX0_become 73 = .ok (.invokestatic 64, 3) := by decide +kernel
theorem dX0_become_76 : decode cX0_become 76 = .ok (.aload_n 1, 1) := by decide +kernel
theorem dX0_become_77 : decode cX0_become 77 = .ok (.getfield 28, 3) := by decide +kernel
theorem dX0_become_80 : decode cX0_become 80 = .ok (.iconst 0, 1) := by decide +kernel
theorem dX0_become_81 : decode cX0_become 81 = .ok (.aload_n 0, 1) := by decide +kernel
theorem dX0_become_82 : decode cX0_become 82 = .ok (.getfield 28, 3) := by decide +kernel
theorem dX0_become_85 : decode cX0_become 85 = .ok (.iconst 0, 1) := by decide +kernel
theorem dX0_become_86 : decode cX0_become 86 = .ok (.bipush 80, 2) := by decide +kernel
theorem dX0_become_88 : decode cX0_become 88 = .ok (.invokestatic 64, 3) := by decide +kernel
theorem dX0_become_91 : decode cX0_become 91 = .ok (.aload_n 1, 1) := by decide +kernel
theorem dX0_become_92 : decode cX0_become 92 = .ok (.getfield 31, 3) := by decide +kernel
theorem dX0_become_95 : decode cX0_become 95 = .ok (.iconst 0, 1) := by decide +kernel
theorem dX0_become_96 : decode cX0_become 96 = .ok (.aload_n 0, 1) := by decide +kernel
theorem dX0_become_97 : decode cX0_become 97 = .ok (.getfield 31, 3) := by decide +kernel
theorem dX0_become_100 : decode cX0_become 100 = .ok (.iconst 0, 1) := by decide +kernel
theorem dX0_become_101 : decode cX0_become 101 = .ok (.bipush 80, 2) := by decide +kernel
theorem dX0_become_103 : decode cX0_become 103 = .ok (.invokestatic 64, 3) := by decide +kernel
theorem dX0_become_106 : decode cX0_become 106 = .ok (.aload_n 1, 1) := by decide +kernel
theorem dX0_become_107 : decode cX0_become 107 = .ok (.getfield 34, 3) := by decide +kernel
theorem dX0_become_110 : decode cX0_become 110 = .ok (.iconst 0, 1) := by decide +kernel
theorem dX0_become_111 : decode cX0_become 111 = .ok (.aload_n 0, 1) := by decide +kernel
theorem dX0_become_112 : decode cX0_become 112 = .ok (.getfield 34, 3) := by decide +kernel
theorem dX0_become_115 : decode cX0_become 115 = .ok (.iconst 0, 1) := by decide +kernel
theorem dX0_become_116 : decode cX0_become 116 = .ok (.bipush 80, 2) := by decide +kernel
theorem dX0_become_118 : decode cX0_become 118 = .ok (.invokestatic 64, 3) := by decide +kernel
theorem dX0_become_121 : decode cX0_become 121 = .ok (.aload_n 1, 1) := by decide +kernel
theorem dX0_become_122 : decode cX0_become 122 = .ok (.getfield 37, 3) := by decide +kernel
theorem dX0_become_125 : decode cX0_become 125 = .ok (.iconst 0, 1) := by decide +kernel
theorem dX0_become_126 : decode cX0_become 126 = .ok (.aload_n 0, 1) := by decide +kernel
theorem dX0_become_127 : decode cX0_become 127 = .ok (.getfield 37, 3) := by decide +kernel
theorem dX0_become_130 : decode cX0_become 130 = .ok (.iconst 0, 1) := by decide +kernel
theorem dX0_become_131 : decode cX0_become 131 = .ok (.bipush 80, 2) := by decide +kernel
theorem dX0_become_133 : decode cX0_become 133 = .ok (.invokestatic 64, 3) := by decide +kernel
theorem dX0_become_136 : decode cX0_become 136 = .ok (.aload_n 1, 1) := by decide +kernel
theorem dX0_become_137 : decode cX0_become 137 = .ok (.getfield 43, 3) := by decide +kernel
theorem dX0_become_140 : decode cX0_become 140 = .ok (.iconst 0, 1) := by decide +kernel
theorem dX0_become_141 : decode cX0_become 141 = .ok (.aload_n 0, 1) := by decide +kernel
theorem dX0_become_142 : decode cX0_become 142 = .ok (.getfield 43, 3) := by decide +kernel
theorem dX0_become_145 : decode cX0_become 145 = .ok (.iconst 0, 1) := by decide +kernel
theorem dX0_become_146 : decode cX0_become 146 = .ok (.bipush 80, 2) := by decide +kernel
theorem dX0_become_148 : decode cX0_become 148 = .ok (.invokestatic 64, 3) := by decide +kernel
theorem dX0_become_151 : decode cX0_become 151 = .ok (.return_, 1) := by decide +kernel
theorem dX0_queue_0 : decode cX0_queue 0 = .ok (.aload_n 0, 1) := by decide +kernel
theorem dX0_queue_1 : decode cX0_queue 1 = .ok (.getfield 40, 3) := by decide +kernel
theorem dX0_queue_4 : decode cX0_queue 4 = .ok (.istore_n 2, 1) := by decide +kernel
theorem dX0_queue_5 : decode cX0_queue 5 = .ok (.aload_n 0, 1) := by decide +kernel
theorem dX0_queue_6 : decode cX0_queue 6 = .ok (.getfield 40, 3) := by decide +kernel
theorem dX0_queue_9 : decode cX0_queue 9 = .ok (.istore_n 3, 1) := by decide +kernel
theorem dX0_queue_10 : decode cX0_queue 10 = .ok (.iload_n 3, 1) := by decide +kernel
theorem dX0_queue_11 : decode cX0_queue 11 = .ok (.ifCond .le 49, 3) := by decide +kernel
theorem dX0_queue_14 : decode cX0_queue 14 = .ok (.aload_n 0, 1) := by decide +kernel
theorem dX0_queue_15 : decode cX0_queue 15 = .ok (.getfield 31, 3) := by decide +kernel
theorem dX0_queue_18 : decode cX0_queue 18 = .ok (.aload_n 0, 1) := by decide +kernel
theorem dX0_queue_19 : decode cX0_queue 19 = .ok (.getfield 43, 3) := by decide +kernel
theorem dX0_queue_22 : decode cX0_queue 22 = .ok (.iload_n 3, 1) := by decide +kernel
theorem dX0_queue_23 : decode cX0_queue 23 = .ok (.iconst 1, 1) := by decide +kernel
theorem dX0_queue_24 : decode cX0_queue 24 = .ok (.isub, 1) := by decide +kernel
theorem dX0_queue_25 : decode cX0_queue 25 = .ok (.iaload, 1) := by decide +kernel
theorem dX0_queue_26 : decode cX0_queue 26 = .ok (.iaload, 1) := by decide +kernel
theorem dX0_queue_27 : decode cX0_queue 27 = .ok (.aload_n 0, 1) := by decide +kernel
theorem dX0_queue_28 : decode cX0_queue 28 = .ok (.getfield 31, 3) := by decide +kernel
theorem dX0_queue_31 : decode cX0_queue 31 = .ok (.iload_n 1, 1) := by decide +kernel
theorem dX0_queue_32 : decode cX0_queue 32 = .ok (.iaload, 1) := by decide +kernel
theorem dX0_queue_33 : decode cX0_queue 33 = .ok (.if_icmp .le 27, 3) := by decide +kernel
theorem dX0_queue_36 : decode cX0_queue 36 = .ok (.aload_n 0, 1) := by decide +kernel
theorem dX0_queue_37 : decode cX0_queue 37 = .ok (.getfield 43, 3) := by decide +kernel
theorem dX0_queue_40 : decode cX0_queue 40 = .ok (.iload_n 3, 1) := by decide +kernel
theorem dX0_queue_41 : decode cX0_queue 41 = .ok (.aload_n 0, 1) := by decide +kernel
theorem dX0_queue_42 : decode cX0_queue 42 = .ok (.getfield 43, 3) := by decide +kernel
theorem dX0_queue_45 : decode cX0_queue 45 = .ok (.iload_n 3, 1) := by decide +kernel
theorem dX0_queue_46 : decode cX0_queue 46 = .ok (.iconst 1, 1) := by decide +kernel
theorem dX0_queue_47 : decode cX0_queue 47 = .ok (.isub, 1) := by decide +kernel
theorem dX0_queue_48 : decode cX0_queue 48 = .ok (.iaload, 1) := by decide +kernel
theorem dX0_queue_49 : decode cX0_queue 49 = .ok (.iastore, 1) := by decide +kernel
theorem dX0_queue_50 : decode cX0_queue 50 = .ok (.iload_n 3, 1) := by decide +kernel
theorem dX0_queue_51 : decode cX0_queue 51 = .ok (.iconst 1, 1) := by decide +kernel
theorem dX0_queue_52 : decode cX0_queue 52 = .ok (.isub, 1) := by decide +kernel
theorem dX0_queue_53 : decode cX0_queue 53 = .ok (.istore_n 2, 1) := by decide +kernel
theorem dX0_queue_54 : decode cX0_queue 54 = .ok (.iinc 3 (-1), 3) := by decide +kernel
theorem dX0_queue_57 : decode cX0_queue 57 = .ok (.goto (-47), 3) := by decide +kernel
theorem dX0_queue_60 : decode cX0_queue 60 = .ok (.aload_n 0, 1) := by decide +kernel
theorem dX0_queue_61 : decode cX0_queue 61 = .ok (.getfield 43, 3) := by decide +kernel
theorem dX0_queue_64 : decode cX0_queue 64 = .ok (.iload_n 2, 1) := by decide +kernel
theorem dX0_queue_65 : decode cX0_queue 65 = .ok (.iload_n 1, 1) := by decide +kernel
theorem dX0_queue_66 : decode cX0_queue 66 = .ok (.iastore, 1) := by decide +kernel
theorem dX0_queue_67 : decode cX0_queue 67 = .ok (.aload_n 0, 1) := by decide +kernel
theorem dX0_queue_68 : decode cX0_queue 68 = .ok (.dup, 1) := by decide +kernel
theorem dX0_queue_69 : decode cX0_queue 69 = .ok (.getfield 40, 3) := by decide +kernel
theorem dX0_queue_72 : decode cX0_queue 72 = .ok (.iconst 1, 1) := by decide +kernel
theorem dX0_queue_73 : decode cX0_queue 73 = .ok (.iadd, 1) := by decide +kernel
theorem dX0_queue_74 : decode cX0_queue 74 = .ok (.putfield 40, 3) := by decide +kernel
theorem dX0_queue_77 : decode cX0_queue 77 = .ok (.return_, 1) := by decide +kernel
theorem dX1_init_0 : decode cX1_init 0 = .ok (.aload_n 0, 1) := by decide +kernel
theorem dX1_init_1 : decode cX1_init 1 = .ok (.invokespecial 3, 3) := by decide +kernel
theorem dX1_init_4 : decode cX1_init 4 = .ok (.aload_n 0, 1) := by decide +kernel
theorem dX1_init_5 : decode cX1_init 5 = .ok (.bipush 50, 2) := by decide +kernel
theorem dX1_init_7 : decode cX1_init 7 = .ok (.newarray .int, 2) := by decide +kernel
theorem dX1_init_9 : decode cX1_init 9 = .ok (.putfield 9, 3) := by decide +kernel
theorem dX1_init_12 : decode cX1_init 12 = .ok (.aload_n 0, 1) := by decide +kernel
theorem dX1_init_13 : decode cX1_init 13 = .ok (.aload_n 0, 1) := by decide +kernel
theorem dX1_init_14 : decode cX1_init 14 = .ok (.getfield 9, 3) := by decide +kernel
theorem dX1_init_17 : decode cX1_init 17 = .ok (.putfield 15, 3) := by decide +kernel
theorem dX1_init_20 : decode cX1_init 20 = .ok (.aload_n 0, 1) := by decide +kernel
theorem dX1_init_21 : decode cX1_init 21 = .ok (.ldc 18, 2) := by decide +kernel
theorem dX1_init_23 : decode cX1_init 23 = .ok (.putfield 20, 3) := by decide +kernel
theorem dX1_init_26 : decode cX1_init 26 = .ok (.return_, 1) := by decide +kernel
set_option maxRecDepth 20000 in
theorem ggX1_read_X1_readLevel : GoodIn wsX1_read wsX1_readLevel := goodIn_r _ [10, 4, 11, 12, 13, 9, 6, 7, 8, 14, 15, 16, 17, 18, 19, 20, 2, 1, 21, 22, 23, 24, 25, 26, 27, 28, 29, 30, 31, 32, 33, 34, 35, 36, 37, 38, 39, 40, 41, 42, 43, 44, 45, 46, 47, 48, 49, 50, 51, 52, 53, 54, 55, 56, 57, 58, 59, 60, 61, 62, 63, 64, 65, 66, 67, 68, 69, 70, 71, 72, 73, 74, 75, 76, 77, 78, 79, 80, 81, 82, 83, 84, 85, 86, 87, 88, 89, 90, 91, 92, 93, 94, 95, 96, 97, 98, 99, 100, 101, 102, 103, 104, 105, 106, 107, 108, 109, 110, 111, 112, 113, 5, 114, 115, 116, 117, 3, 118, 119, 120, 121, 122, 123, 124, 125, 126, 127, 128, 129, 130, 131, 132, 133, 134, 135, 136] (by decide +kernel) (by decide +kernel)
set_option maxRecDepth 20000 in
theorem gX1_read_X1_readLevel : GoodIn wsX1_read (wsV RX1 34 RX1 yX1_readLevel wsX1_readLevel) := goodIn_app (goodIn_of _ (by decide +kernel)) ggX1_read_X1_readLevel
theorem dX1_read_0 : decode cX1_read 0 = .ok (.aload_n 0, 1) := by decide +kernel
theorem dX1_read_1 : decode cX1_read 1 = .ok (.aload_n 1, 1) := by decide +kernel
theorem dX1_read_2 : decode cX1_read 2 = .ok (.putfield 15, 3) := by decide +kernel
theorem dX1_read_5 : decode cX1_read 5 = .ok (.aload_n 0, 1) := by decide +kernel
theorem dX1_read_6 : decode cX1_read 6 = .ok (.iload_n 2, 1) := by decide +kernel
theorem dX1_read_7 : decode cX1_read 7 = .ok (.putfield 24, 3) := by decide +kernel
theorem dX1_read_10 : decode cX1_read 10 = .ok (.aload_n 0, 1) := by decide +kernel
theorem dX1_read_11 : decode cX1_read 11 = .ok (.aload_n 3, 1) := by decide +kernel
theorem dX1_read_12 : decode cX1_read 12 = .ok (.putfield 20, 3) := by decide +kernel
theorem dX1_read_15 : decode cX1_read 15 = .ok (.aload_n 0, 1) := by decide +kernel
theorem dX1_read_16 : decode cX1_read 16 = .ok (.iconst 0, 1) := by decide +kernel
theorem dX1_read_17 : decode cX1_read 17 = .ok (.putfield 28, 3) := by decide +kernel
theorem dX1_read_20 : decode cX1_read 20 = .ok (.aload_n 0, 1) := by decide +kernel
theorem dX1_read_21 : decode cX1_read 21 = .ok (.iconst 0, 1) := by decide +kernel
theorem dX1_read_22 : decode cX1_read 22 = .ok (.putfield 31, 3) := by decide +kernel
theorem dX1_read_25 : decode cX1_read 25 = .ok (.aload_n 0, 1) := by decide +kernel
theorem dX1_read_26 : decode cX1_read 26 = .ok (.iconst 0, 1) := by decide +kernel
theorem dX1_read_27 : decode cX1_read 27 = .ok (.iconst 0, 1) := by decide +kernel
theorem dX1_read_28 : decode cX1_read 28 = .ok (.invokevirtual 34, 3) := by decide +kernel
theorem dX1_read_31 : decode cX1_read 31 = .ok (.ifCond .eq 18, 3) := by decide +kernel
theorem dX1_read_34 : decode cX1_read 34 = .ok (.aload_n 0, 1) := by decide +kernel
theorem dX1_read_35 : decode cX1_read 35 = .ok (.getfield 28, 3) := by decide +kernel
theorem dX1_read_38 : decode cX1_read 38 = .ok (.aload_n 0, 1) := by decide +kernel
theorem dX1_read_39 : decode cX1_read 39 = .ok (.getfield 24, 3) := by decide +kernel
theorem dX1_read_42 : decode cX1_read 42 = .ok (.if_icmp .ne 7, 3) := by decide +kernel
theorem dX1_read_45 : decode cX1_read 45 = .ok (.iconst (-1), 1) := by decide +kernel
theorem dX1_read_46 : decode cX1_read 46 = .ok (.goto 7, 3) := by decide +kernel
theorem dX1_read_49 : decode cX1_read 49 = .ok (.aload_n 0, 1) := by decide +kernel
theorem dX1_read_50 : decode cX1_read 50 = .ok (.getfield 28, 3) := by decide +kernel
theorem dX1_read_53 : decode cX1_read 53 = .ok (.ireturn, 1) := by decide +kernel
theorem dX1_signsOf_0 : decode cX1_signsOf 0 = .ok (.iload_n 0, 1) := by decide +kernel
theorem dX1_signsOf_1 : decode cX1_signsOf 1 = .ok (.tableswitch 43 0 3 #[31, 34, 37, 40], 31) := by decide +kernel
theorem dX1_signsOf_32 : decode cX1_signsOf 32 = .ok (.ldc 38, 2) := by decide +kernel
theorem dX1_signsOf_34 : decode cX1_signsOf 34 = .ok (.areturn, 1) := by decide +kernel
theorem dX1_signsOf_35 : decode cX1_signsOf 35 = .ok (.ldc 40, 2) := by decide +kernel
theorem dX1_signsOf_37 : decode cX1_signsOf 37 = .ok (.areturn, 1) := by decide +kernel
theorem dX1_signsOf_38 : decode cX1_signsOf 38 = .ok (.ldc 42, 2) := by decide +kernel
theorem dX1_signsOf_40 : decode cX1_signsOf 40 = .ok (.areturn, 1) := by decide +kernel
theorem dX1_signsOf_41 : decode cX1_signsOf 41 = .ok (.ldc 44, 2) := by decide +kernel
theorem dX1_signsOf_43 : decode cX1_signsOf 43 = .ok (.areturn, 1) := by decide +kernel
theorem dX1_signsOf_44 : decode cX1_signsOf 44 = .ok (.ldc 46, 2) := by decide +kernel
theorem dX1_signsOf_46 : decode cX1_signsOf 46 = .ok (.areturn, 1) := by decide +kernel
set_option maxRecDepth 20000 in
theorem ggX1_readLevel_X1_readUnit : GoodIn wsX1_readLevel wsX1_readUnit := goodIn_r _ [115, 116, 1, 12, 13, 14, 5, 15, 16, 17, 117, 118, 119, 120, 121, 122, 123, 107, 108, 109, 110, 111, 112, 18, 19, 20, 21, 22, 23, 24, 25, 26, 27, 28, 29, 30, 31, 32, 33, 34, 35, 36, 37, 38, 39, 40, 41, 42, 43, 44, 45, 46, 47, 48, 49, 50, 51, 52, 53, 54, 55, 56, 57, 58, 59, 60, 61, 62, 63, 64, 65, 66, 67, 68, 69, 70, 71, 72, 73, 74, 75, 76, 77, 78, 79, 80, 81, 82, 83, 84, 85, 86, 87, 88, 89, 90, 91, 92, 93, 94, 95, 96, 97, 98, 99, 100, 101, 102, 103, 104, 105, 106, 124, 125, 126, 127, 128, 129, 113, 6, 7, 8, 0, 2, 3, 4, 9, 10, 11, 114, 130, 131, 132, 133, 134, 135] (by decide +kernel) (by decide +kernel)
set_option maxRecDepth 20000 in
theorem gX1_readLevel_X1_readUnit : GoodIn wsX1_readLevel (wsV RX1 48 RX1 yX1_readUnit wsX1_readUnit) := goodIn_app (goodIn_of _ (by decide +kernel)) ggX1_readLevel_X1_readUnit
set_option maxRecDepth 20000 in
theorem ggX1_readLevel_X1_readLevel : GoodIn wsX1_readLevel wsX1_readLevel := goodIn_r _ [0, 1, 2, 3, 4, 5, 6, 7, 8, 9, 10, 11, 12, 13, 14, 15, 16, 17, 18, 19, 20, 21, 22, 23, 24, 25, 26, 27, 28, 29, 30, 31, 32, 33, 34, 35, 36, 37, 38, 39, 40, 41, 42, 43, 44, 45, 46, 47, 48, 49, 50, 51, 52, 53, 54, 55, 56, 57, 58, 59, 60, 61, 62, 63, 64, 65, 66, 67, 68, 69, 70, 71, 72, 73, 74, 75, 76, 77, 78, 79, 80, 81, 82, 83, 84, 85, 86, 87, 88, 89, 90, 91, 92, 93, 94, 95, 96, 97, 98, 99, 100, 101, 102, 103, 104, 105, 106, 107, 108, 109, 110, 111, 112, 113, 114, 115, 116, 117, 118, 119, 120, 121, 122, 123, 124, 125, 126, 127, 128, 129, 130, 131, 132, 133, 134, 135] (by decide +kernel) (by decide +kernel)
set_option maxRecDepth 20000 in
theorem gX1_readLevel_X1_readLevel : GoodIn wsX1_readLevel (wsV RX1 34 RX1 yX1_readLevel wsX1_readLevel) := goodIn_app (goodIn_of _ (by decide +kernel)) ggX1_readLevel_X1_readLevel
set_option maxRecDepth 20000 in
theorem ggX1_readLevel_X1_signsOf : GoodIn wsX1_readLevel wsX1_signsOf := goodIn_r _ [11] (by decide +kernel) (by decide +kernel)
set_option maxRecDepth 20000 in
theorem gX1_readLevel_X1_signsOf : GoodIn wsX1_readLevel (va_wsS RX1 52 yX1_signsOf wsX1_signsOf) := goodIn_app (goodIn_of _ (by decide +kernel)) ggX1_readLevel_X1_signsOf
set_option maxRecDepth 20000 in
theorem ggX1_readLevel_X1_next : GoodIn wsX1_readLevel wsX1_next := goodIn_r _ [15, 1, 16, 17, 130, 131, 132, 133, 134, 135] (by decide +kernel) (by decide +kernel)
set_option maxRecDepth 20000 in
theorem gX1_readLevel_X1_next : GoodIn wsX1_readLevel (wsV RX1 56 RX1 yX1_next wsX1_next) := goodIn_app (goodIn_of _ (by decide +kernel)) ggX1_readLevel_X1_next
set_option maxRecDepth 20000 in
theorem ggX1_readLevel_J0_indexOf_0f7a4 : GoodIn wsX1_readLevel wsJ0_indexOf_0f7a4 := goodIn_r _ [22, 23, 24, 25, 21, 26, 27, 28, 29, 30, 31, 32, 33, 34, 35, 36, 37, 38, 39, 40, 41, 42, 43, 44, 45, 46, 47, 48, 49, 50, 51, 52, 53, 54, 55, 56, 57, 58, 59, 60, 61, 62, 63, 64, 65, 66, 67, 68, 69, 70, 71, 72, 73, 74, 75, 76, 77, 78, 79, 80, 81, 82, 83, 84, 85, 86, 87, 88, 89, 90, 91, 92, 93, 94, 95, 96, 97, 98, 99, 100, 101, 102, 103, 104, 105, 106] (by decide +kernel) (by decide +kernel)
set_option maxRecDepth 20000 in
theorem gX1_readLevel_J0_indexOf_0f7a4 : GoodIn wsX1_readLevel (wsV RX1 60 RJ0 yJ0_indexOf_0f7a4 wsJ0_indexOf_0f7a4) := goodIn_app (goodIn_of _ (by decide +kernel)) ggX1_readLevel_J0_indexOf_0f7a4
set_option maxRecDepth 20000 in
theorem ggX1_readLevel_X1_add : GoodIn wsX1_readLevel wsX1_add := goodIn_r _ [110, 111, 112, 130, 131, 132, 133, 134, 135] (by decide +kernel) (by decide +kernel)
set_option maxRecDepth 20000 in
theorem gX1_readLevel_X1_add : GoodIn wsX1_readLevel (wsV RX1 66 RX1 yX1_add wsX1_add) := goodIn_app (goodIn_of _ (by decide +kernel)) ggX1_readLevel_X1_add
theorem dX1_readLevel_0 : decode cX1_readLevel 0 = .ok (.iload_n 1, 1) := by decide +kernel
theorem dX1_readLevel_1 : decode cX1_readLevel 1 = .ok (.iconst 5, 1) := by decide +kernel
theorem dX1_readLevel_2 : decode cX1_readLevel 2 = .ok (.if_icmp .lt 9, 3) := by decide +kernel
theorem dX1_readLevel_5 : decode cX1_readLevel 5 = .ok (.aload_n 0, 1) := by decide +kernel
theorem dX1_readLevel_6 : decode cX1_readLevel 6 = .ok (.iload_n 2, 1) := by decide +kernel
theorem dX1_readLevel_7 : decode cX1_readLevel 7 = .ok (.invokevirtual 48, 3) := by decide +kernel
theorem dX1_readLevel_10 : decode cX1_readLevel 10 = .ok (.ireturn, 1) := by decide +kernel
theorem dX1_readLevel_11 : decode cX1_readLevel 11 = .ok (.aload_n 0, 1) := by decide +kernel
theorem dX1_readLevel_12 : decode cX1_readLevel 12 = .ok (.iload_n 1, 1) := by decide +kernel
theorem dX1_readLevel_13 : decode cX1_readLevel 13 = .ok (.iconst 1, 1) := by decide +kernel
theorem dX1_readLevel_14 : decode cX1_readLevel 14 = .ok (.iadd, 1) := by decide +kernel
theorem dX1_readLevel_15 : decode cX1_readLevel 15 = .ok (.iload_n 2, 1) := by decide +kernel
theorem dX1_readLevel_16 : decode cX1_readLevel 16 = .ok (.invokevirtual 34, 3) := by decide +kernel
theorem dX1_readLevel_19 : decode cX1_readLevel 19 = .ok (.ifCond .ne 5, 3) := by decide +kernel
theorem dX1_readLevel_22 : decode cX1_readLevel 22 = .ok (.iconst 0, 1) := by decide +kernel
theorem dX1_readLevel_23 : decode cX1_readLevel 23 = .ok (.ireturn, 1) := by decide +kernel
theorem dX1_readLevel_24 : decode cX1_readLevel 24 = .ok (.iload_n 1, 1) := by decide +kernel
theorem dX1_readLevel_25 : decode cX1_readLevel 25 = .ok (.iconst 2, 1) := by decide +kernel
theorem dX1_readLevel_26 : decode cX1_readLevel 26 = .ok (.if_icmp .ne 7, 3) := by decide +kernel
theorem dX1_readLevel_29 : decode cX1_readLevel 29 = .ok (.iconst 1, 1) := by decide +kernel
theorem dX1_readLevel_30 : decode cX1_readLevel 30 = .ok (.goto 5, 3) := by decide +kernel
theorem dX1_readLevel_33 : decode cX1_readLevel 33 = .ok (.bipush 50, 2) := by decide +kernel
theorem dX1_readLevel_35 : decode cX1_readLevel 35 = .ok (.istore_n 3, 1) := by decide +kernel
theorem dX1_readLevel_36 : decode cX1_readLevel 36 = .ok (.iconst 0, 1) := by decide +kernel
theorem dX1_readLevel_37 : decode cX1_readLevel 37 = .ok (.istore 4, 2) := by decide +kernel
theorem dX1_readLevel_39 : decode cX1_readLevel 39 = .ok (.iload 4, 2) := by decide +kernel
theorem dX1_readLevel_41 : decode cX1_readLevel 41 = .ok (.iload_n 3, 1) := by decide +kernel
theorem dX1_readLevel_42 : decode cX1_readLevel 42 = .ok (.if_icmp .ge 59, 3) := by decide +kernel
theorem dX1_readLevel_45 : decode cX1_readLevel 45 = .ok (.iload_n 1, 1) := by decide +kernel
theorem dX1_readLevel_46 : decode cX1_readLevel 46 = .ok (.invokestatic 52, 3) := by decide +kernel
theorem dX1_readLevel_49 : decode cX1_readLevel 49 = .ok (.aload_n 0, 1) := by decide +kernel
theorem dX1_readLevel_50 : decode cX1_readLevel 50 = .ok (.invokevirtual 56, 3) := by decide +kernel
theorem dX1_readLevel_53 : decode cX1_readLevel 53 = .ok (.invokevirtual 60, 3) := by decide +kernel
theorem dX1_readLevel_56 : decode cX1_readLevel 56 = .ok (.ifCond .lt 45, 3) := by decide +kernel
theorem dX1_readLevel_59 : decode cX1_readLevel 59 = .ok (.aload_n 0, 1) := by decide +kernel
theorem dX1_readLevel_60 : decode cX1_readLevel 60 = .ok (.invokevirtual 56, 3) := by decide +kernel
theorem dX1_readLevel_63 : decode cX1_readLevel 63 = .ok (.istore 5, 2) := by decide +kernel
theorem dX1_readLevel_65 : decode cX1_readLevel 65 = .ok (.aload_n 0, 1) := by decide +kernel
theorem dX1_readLevel_66 : decode cX1_readLevel 66 = .ok (.dup, 1) := by decide +kernel
theorem dX1_readLevel_67 : decode cX1_readLevel 67 = .ok (.getfield 28, 3) := by decide +kernel
theorem dX1_readLevel_70 : decode cX1_readLevel 70 = .ok (.iconst 1, 1) := by decide +kernel
theorem dX1_readLevel_71 : decode cX1_readLevel 71 = .ok (.iadd, 1) := by decide +kernel
theorem dX1_readLevel_72 : decode cX1_readLevel 72 = .ok (.putfield 28, 3) := by decide +kernel
theorem dX1_readLevel_75 : decode cX1_readLevel 75 = .ok (.aload_n 0, 1) := by decide +kernel
theorem dX1_readLevel_76 : decode cX1_readLevel 76 = .ok (.iload_n 1, 1) := by decide +kernel
theorem dX1_readLevel_77 : decode cX1_readLevel 77 = .ok (.iconst 1, 1) := by decide +kernel
theorem dX1_readLevel_78 : decode cX1_readLevel 78 = .ok (.iadd, 1) := by decide +kernel
theorem dX1_readLevel_79 : decode cX1_readLevel 79 = .ok (.iload_n 2, 1) := by decide +kernel
theorem dX1_readLevel_80 : decode cX1_readLevel 80 = .ok (.invokevirtual 34, 3) := by decide +kernel
theorem dX1_readLevel_83 : decode cX1_readLevel 83 = .ok (.ifCond .ne 5, 3) := by decide +kernel
theorem dX1_readLevel_86 : decode cX1_readLevel 86 = .ok (.iconst 0, 1) := by decide +kernel
theorem dX1_readLevel_87 : decode cX1_readLevel 87 = .ok (.ireturn, 1) := by decide +kernel
theorem dX1_readLevel_88 : decode cX1_readLevel 88 = .ok (.aload_n 0, 1) := by decide +kernel
theorem dX1_readLevel_89 : decode cX1_readLevel 89 = .ok (.iload 5, 2) := by decide +kernel
theorem dX1_readLevel_91 : decode cX1_readLevel 91 = .ok (.ineg, 1) := by decide +kernel
theorem dX1_readLevel_92 : decode cX1_readLevel 92 = .ok (.invokevirtual 66, 3) := by decide +kernel
theorem dX1_readLevel_95 : decode cX1_readLevel 95 = .ok (.iinc 4 1, 3) := by decide +kernel
theorem dX1_readLevel_98 : decode cX1_readLevel 98 = .ok (.goto (-59), 3) := by decide +kernel
theorem dX1_readLevel_101 : decode cX1_readLevel 101 = .ok (.iconst 1, 1) := by decide +kernel
theorem dX1_readLevel_102 : decode cX1_readLevel 102 = .ok (.ireturn, 1) := by decide +kernel
set_option maxRecDepth 20000 in
theorem ggX1_readUnit_X1_next : GoodIn wsX1_readUnit wsX1_next := goodIn_r _ [7, 2, 8, 9, 130, 131, 132, 133, 134, 135] (by decide +kernel) (by decide +kernel)
set_option maxRecDepth 20000 in
theorem gX1_readUnit_X1_next : GoodIn wsX1_readUnit (wsV RX1 56 RX1 yX1_next wsX1_next) := goodIn_app (goodIn_of _ (by decide +kernel)) ggX1_readUnit_X1_next
set_option maxRecDepth 20000 in
theorem ggX1_readUnit_X1_isDigit : GoodIn wsX1_readUnit wsX1_isDigit := goodIn_r _ [12] (by decide +kernel) (by decide +kernel)
set_option maxRecDepth 20000 in
theorem gX1_readUnit_X1_isDigit : GoodIn wsX1_readUnit (va_wsS RX1 70 yX1_isDigit wsX1_isDigit) := goodIn_app (goodIn_of _ (by decide +kernel)) ggX1_readUnit_X1_isDigit
set_option maxRecDepth 20000 in
theorem ggX1_readUnit_X1_readNumber : GoodIn wsX1_readUnit wsX1_readNumber := goodIn_r _ [16, 2, 3, 4, 5, 6, 7, 8, 9, 10, 11, 12, 17, 18, 19, 20, 21, 22, 130, 131, 132, 133, 134, 135] (by decide +kernel) (by decide +kernel)
set_option maxRecDepth 20000 in
theorem gX1_readUnit_X1_readNumber : GoodIn wsX1_readUnit (wsV RX1 74 RX1 yX1_readNumber wsX1_readNumber) := goodIn_app (goodIn_of _ (by decide +kernel)) ggX1_readUnit_X1_readNumber
set_option maxRecDepth 20000 in
theorem ggX1_readUnit_J0_indexOf_0f7a4 : GoodIn wsX1_readUnit wsJ0_indexOf_0f7a4 := goodIn_r _ [27, 28, 29, 30, 26, 31, 32, 33, 34, 35, 36, 37, 38, 39, 40, 41, 42, 43, 44, 45, 46, 47, 48, 49, 50, 51, 52, 53, 54, 55, 56, 57, 58, 59, 60, 61, 62, 63, 64, 65, 66, 67, 68, 69, 70, 71, 72, 73, 74, 75, 76, 77, 78, 79, 80, 81, 82, 83, 84, 85, 86, 87, 88, 89, 90, 91, 92, 93, 94, 95, 96, 97, 98, 99, 100, 101, 102, 103, 104, 105, 106, 107, 108, 109, 110, 111] (by decide +kernel) (by decide +kernel)
set_option maxRecDepth 20000 in
theorem gX1_readUnit_J0_indexOf_0f7a4 : GoodIn wsX1_readUnit (wsV RX1 60 RJ0 yJ0_indexOf_0f7a4 wsJ0_indexOf_0f7a4) := goodIn_app (goodIn_of _ (by decide +kernel)) ggX1_readUnit_J0_indexOf_0f7a4
set_option maxRecDepth 20000 in
theorem ggX1_readUnit_X1_add : GoodIn wsX1_readUnit wsX1_add := goodIn_r _ [20, 21, 22, 130, 131, 132, 133, 134, 135] (by decide +kernel) (by decide +kernel)
set_option maxRecDepth 20000 in
theorem gX1_readUnit_X1_add : GoodIn wsX1_readUnit (wsV RX1 66 RX1 yX1_add wsX1_add) := goodIn_app (goodIn_of _ (by decide +kernel)) ggX1_readUnit_X1_add
set_option maxRecDepth 20000 in
theorem ggX1_readUnit_X1_readNot : GoodIn wsX1_readUnit wsX1_readNot := goodIn_r _ [129, 123, 124, 125, 6, 17, 18, 19, 20, 21, 22, 118, 2, 119, 120, 121, 3, 4, 5, 7, 8, 9, 122, 126, 127, 128, 23, 24, 25, 26, 27, 28, 29, 30, 31, 32, 33, 34, 35, 36, 37, 38, 39, 40, 41, 42, 43, 44, 45, 46, 47, 48, 49, 50, 51, 52, 53, 54, 55, 56, 57, 58, 59, 60, 61, 62, 63, 64, 65, 66, 67, 68, 69, 70, 71, 72, 73, 74, 75, 76, 77, 78, 79, 80, 81, 82, 83, 84, 85, 86, 87, 88, 89, 90, 91, 92, 93, 94, 95, 96, 97, 98, 99, 100, 101, 102, 103, 104, 105, 106, 107, 108, 109, 110, 111, 0, 1, 10, 11, 12, 13, 14, 15, 16, 112, 113, 114, 115, 116, 117, 130, 131, 132, 133, 134, 135] (by decide +kernel) (by decide +kernel)
set_option maxRecDepth 20000 in
theorem gX1_readUnit_X1_readNot : GoodIn wsX1_readUnit (wsV RX1 79 RX1 yX1_readNot wsX1_readNot) := goodIn_app (goodIn_of _ (by decide +kernel)) ggX1_readUnit_X1_readNot
set_option maxRecDepth 20000 in
theorem ggX1_readUnit_X1_readInside : GoodIn wsX1_readUnit wsX1_readInside := goodIn_r _ [118, 2, 119, 120, 121, 6, 3, 4, 5, 7, 8, 9, 122, 123, 124, 125, 126, 127, 128, 23, 24, 25, 26, 27, 28, 29, 30, 31, 32, 33, 34, 35, 36, 37, 38, 39, 40, 41, 42, 43, 44, 45, 46, 47, 48, 49, 50, 51, 52, 53, 54, 55, 56, 57, 58, 59, 60, 61, 62, 63, 64, 65, 66, 67, 68, 69, 70, 71, 72, 73, 74, 75, 76, 77, 78, 79, 80, 81, 82, 83, 84, 85, 86, 87, 88, 89, 90, 91, 92, 93, 94, 95, 96, 97, 98, 99, 100, 101, 102, 103, 104, 105, 106, 107, 108, 109, 110, 111, 17, 18, 19, 20, 21, 22, 129, 0, 1, 10, 11, 12, 13, 14, 15, 16, 112, 113, 114, 115, 116, 117, 130, 131, 132, 133, 134, 135] (by decide +kernel) (by decide +kernel)
set_option maxRecDepth 20000 in
theorem gX1_readUnit_X1_readInside : GoodIn wsX1_readUnit (wsV RX1 82 RX1 yX1_readInside wsX1_readInside) := goodIn_app (goodIn_of _ (by decide +kernel)) ggX1_readUnit_X1_readInside
theorem dX1_readUnit_0 : decode cX1_readUnit 0 = .ok (.aload_n 0, 1) := by decide +kernel
theorem dX1_readUnit_1 : decode cX1_readUnit 1 = .ok (.invokevirtual 56, 3) := by decide +kernel
theorem dX1_readUnit_4 : decode cX1_readUnit 4 = .ok (.istore_n 2, 1) := by decide +kernel
theorem dX1_readUnit_5 : decode cX1_readUnit 5 = .ok (.iload_n 2, 1) := by decide +kernel
theorem dX1_readUnit_6 : decode cX1_readUnit 6 = .ok (.invokestatic 70, 3) := by decide +kernel
theorem dX1_readUnit_9 : decode cX1_readUnit 9 = .ok (.ifCond .eq 9, 3) := by decide +kernel
theorem dX1_readUnit_12 : decode cX1_readUnit 12 = .ok (.aload_n 0, 1) := by decide +kernel
theorem dX1_readUnit_13 : decode cX1_readUnit 13 = .ok (.invokevirtual 74, 3) := by decide +kernel
theorem dX1_readUnit_16 : decode cX1_readUnit 16 = .ok (.iconst 1, 1) := by decide +kernel
theorem dX1_readUnit_17 : decode cX1_readUnit 17 = .ok (.ireturn, 1) := by decide +kernel
theorem dX1_readUnit_18 : decode cX1_readUnit 18 = .ok (.aload_n 0, 1) := by decide +kernel
theorem dX1_readUnit_19 : decode cX1_readUnit 19 = .ok (.getfield 20, 3) := by decide +kernel
theorem dX1_readUnit_22 : decode cX1_readUnit 22 = .ok (.iload_n 2, 1) := by decide +kernel
theorem dX1_readUnit_23 : decode cX1_readUnit 23 = .ok (.invokevirtual 60, 3) := by decide +kernel
theorem dX1_readUnit_26 : decode cX1_readUnit 26 = .ok (.istore_n 3, 1) := by decide +kernel
theorem dX1_readUnit_27 : decode cX1_readUnit 27 = .ok (.iload_n 3, 1) := by decide +kernel
theorem dX1_readUnit_28 : decode cX1_readUnit 28 = .ok (.ifCond .lt 24, 3) := by decide +kernel
theorem dX1_readUnit_31 : decode cX1_readUnit 31 = .ok (.aload_n 0, 1) := by decide +kernel
theorem dX1_readUnit_32 : decode cX1_readUnit 32 = .ok (.dup, 1) := by decide +kernel
theorem dX1_readUnit_33 : decode cX1_readUnit 33 = .ok (.getfield 28, 3) := by decide +kernel
theorem dX1_readUnit_36 : decode cX1_readUnit 36 = .ok (.iconst 1, 1) := by decide +kernel
theorem dX1_readUnit_37 : decode cX1_readUnit 37 = .ok (.iadd, 1) := by decide +kernel
theorem dX1_readUnit_38 : decode cX1_readUnit 38 = .ok (.putfield 28, 3) := by decide +kernel
theorem dX1_readUnit_41 : decode cX1_readUnit 41 = .ok (.aload_n 0, 1) := by decide +kernel
theorem dX1_readUnit_42 : decode cX1_readUnit 42 = .ok (.sipush 10000, 3) := by decide +kernel
theorem dX1_readUnit_45 : decode cX1_readUnit 45 = .ok (.iload_n 3, 1) := by decide +kernel
theorem dX1_readUnit_46 : decode cX1_readUnit 46 = .ok (.iadd, 1) := by decide +kernel
theorem dX1_readUnit_47 : decode cX1_readUnit 47 = .ok (.invokevirtual 66, 3) := by decide +kernel
theorem dX1_readUnit_50 : decode cX1_readUnit 50 = .ok (.iconst 1, 1) := by decide +kernel
theorem dX1_readUnit_51 : decode cX1_readUnit 51 = .ok (.ireturn, 1) := by decide +kernel
theorem dX1_readUnit_52 : decode cX1_readUnit 52 = .ok (.iload_n 2, 1) := by decide +kernel
theorem dX1_readUnit_53 : decode cX1_readUnit 53 = .ok (.bipush 33, 2) := by decide +kernel
theorem dX1_readUnit_55 : decode cX1_readUnit 55 = .ok (.if_icmp .eq 9, 3) := by decide +kernel
theorem dX1_readUnit_58 : decode cX1_readUnit 58 = .ok (.iload_n 2, 1) := by decide +kernel
theorem dX1_readUnit_59 : decode cX1_readUnit 59 = .ok (.bipush 40, 2) := by decide +kernel
theorem dX1_readUnit_61 : decode cX1_readUnit 61 = .ok (.if_icmp .ne 8, 3) := by decide +kernel
theorem dX1_readUnit_64 : decode cX1_readUnit 64 = .ok (.iload_n 1, 1) := by decide +kernel
theorem dX1_readUnit_65 : decode cX1_readUnit 65 = .ok (.iconst 5, 1) := by decide +kernel
theorem dX1_readUnit_66 : decode cX1_readUnit 66 = .ok (.if_icmp .lt 5, 3) := by decide +kernel
theorem dX1_readUnit_69 : decode cX1_readUnit 69 = .ok (.iconst 0, 1) := by decide +kernel
theorem dX1_readUnit_70 : decode cX1_readUnit 70 = .ok (.ireturn, 1) := by decide +kernel
theorem dX1_readUnit_71 : decode cX1_readUnit 71 = .ok (.aload_n 0, 1) := by decide +kernel
theorem dX1_readUnit_72 : decode cX1_readUnit 72 = .ok (.dup, 1) := by decide +kernel
theorem dX1_readUnit_73 : decode cX1_readUnit 73 = .ok (.getfield 28, 3) := by decide +kernel
theorem dX1_readUnit_76 : decode cX1_readUnit 76 = .ok (.iconst 1, 1) := by decide +kernel
theorem dX1_readUnit_77 : decode cX1_readUnit 77 = .ok (.iadd, 1) := by decide +kernel
theorem dX1_readUnit_78 : decode cX1_readUnit 78 = .ok (.putfield 28, 3) := by decide +kernel
theorem dX1_readUnit_81 : decode cX1_readUnit 81 = .ok (.iload_n 2, 1) := by decide +kernel
theorem dX1_readUnit_82 : decode cX1_readUnit 82 = .ok (.bipush 33, 2) := by decide +kernel
theorem dX1_readUnit_84 : decode cX1_readUnit 84 = .ok (.if_icmp .ne 13, 3) := by decide +kernel
theorem dX1_readUnit_87 : decode cX1_readUnit 87 = .ok (.aload_n 0, 1) := by decide +kernel
theorem dX1_readUnit_88 : decode cX1_readUnit 88 = .ok (.iload_n 1, 1) := by decide +kernel
theorem dX1_readUnit_89 : decode cX1_readUnit 89 = .ok (.iconst 1, 1) := by decide +kernel
theorem dX1_readUnit_90 : decode cX1_readUnit 90 = .ok (.iadd, 1) := by decide +kernel
theorem dX1_readUnit_91 : decode cX1_readUnit 91 = .ok (.invokevirtual 79, 3) := by decide +kernel
theorem dX1_readUnit_94 : decode cX1_readUnit 94 = .ok (.goto 10, 3) := by decide +kernel
theorem dX1_readUnit_97 : decode cX1_readUnit 97 = .ok (.aload_n 0, 1) := by decide +kernel
theorem dX1_readUnit_98 : decode cX1_readUnit 98 = .ok (.iload_n 1, 1) := by decide +kernel
theorem dX1_readUnit_99 : decode cX1_readUnit 99 = .ok (.iconst 1, 1) := by decide +kernel
theorem dX1_readUnit_100 : decode cX1_readUnit 100 = .ok (.iadd, 1) := by decide +kernel
theorem dX1_readUnit_101 : decode cX1_readUnit 101 = .ok (.invokevirtual 82, 3) := by decide +kernel
theorem dX1_readUnit_104 : decode cX1_readUnit 104 = .ok (.ireturn, 1) := by decide +kernel
set_option maxRecDepth 20000 in
theorem ggX1_readNot_X1_readUnit : GoodIn wsX1_readNot wsX1_readUnit := goodIn_r _ [115, 116, 12, 16, 17, 18, 4, 19, 20, 21, 117, 118, 119, 120, 121, 122, 123, 5, 6, 7, 8, 9, 10, 26, 27, 28, 29, 30, 31, 32, 33, 34, 35, 36, 37, 38, 39, 40, 41, 42, 43, 44, 45, 46, 47, 48, 49, 50, 51, 52, 53, 54, 55, 56, 57, 58, 59, 60, 61, 62, 63, 64, 65, 66, 67, 68, 69, 70, 71, 72, 73, 74, 75, 76, 77, 78, 79, 80, 81, 82, 83, 84, 85, 86, 87, 88, 89, 90, 91, 92, 93, 94, 95, 96, 97, 98, 99, 100, 101, 102, 103, 104, 105, 106, 107, 108, 109, 110, 111, 112, 113, 114, 124, 125, 126, 127, 128, 129, 11, 13, 14, 15, 22, 1, 2, 3, 23, 24, 25, 0, 130, 131, 132, 133, 134, 135] (by decide +kernel) (by decide +kernel)
set_option maxRecDepth 20000 in
theorem gX1_readNot_X1_readUnit : GoodIn wsX1_readNot (wsV RX1 48 RX1 yX1_readUnit wsX1_readUnit) := goodIn_app (goodIn_of _ (by decide +kernel)) ggX1_readNot_X1_readUnit
set_option maxRecDepth 20000 in
theorem ggX1_readNot_X1_add : GoodIn wsX1_readNot wsX1_add := goodIn_r _ [8, 9, 10, 130, 131, 132, 133, 134, 135] (by decide +kernel) (by decide +kernel)
set_option maxRecDepth 20000 in
theorem gX1_readNot_X1_add : GoodIn wsX1_readNot (wsV RX1 66 RX1 yX1_add wsX1_add) := goodIn_app (goodIn_of _ (by decide +kernel)) ggX1_readNot_X1_add
theorem dX1_readNot_0 : decode cX1_readNot 0 = .ok (.aload_n 0, 1) := by decide +kernel
theorem dX1_readNot_1 : decode cX1_readNot 1 = .ok (.iload_n 1, 1) := by decide +kernel
theorem dX1_readNot_2 : decode cX1_readNot 2 = .ok (.invokevirtual 48, 3) := by decide +kernel
theorem dX1_readNot_5 : decode cX1_readNot 5 = .ok (.ifCond .ne 5, 3) := by decide +kernel
theorem dX1_readNot_8 : decode cX1_readNot 8 = .ok (.iconst 0, 1) := by decide +kernel
theorem dX1_readNot_9 : decode cX1_readNot 9 = .ok (.ireturn, 1) := by decide +kernel
theorem dX1_readNot_10 : decode cX1_readNot 10 = .ok (.aload_n 0, 1) := by decide +kernel
theorem dX1_readNot_11 : decode cX1_readNot 11 = .ok (.bipush (-33), 2) := by decide +kernel
theorem dX1_readNot_13 : decode cX1_readNot 13 = .ok (.invokevirtual 66, 3) := by decide +kernel
theorem dX1_readNot_16 : decode cX1_readNot 16 = .ok (.iconst 1, 1) := by decide +kernel
theorem dX1_readNot_17 : decode cX1_readNot 17 = .ok (.ireturn, 1) := by decide +kernel
set_option maxRecDepth 20000 in
theorem ggX1_readInside_X1_readLevel : GoodIn wsX1_readInside wsX1_readLevel := goodIn_r _ [12, 1, 13, 14, 15, 5, 2, 3, 4, 16, 17, 18, 6, 7, 8, 9, 10, 11, 19, 20, 21, 22, 23, 24, 25, 26, 27, 28, 29, 30, 31, 32, 33, 34, 35, 36, 37, 38, 39, 40, 41, 42, 43, 44, 45, 46, 47, 48, 49, 50, 51, 52, 53, 54, 55, 56, 57, 58, 59, 60, 61, 62, 63, 64, 65, 66, 67, 68, 69, 70, 71, 72, 73, 74, 75, 76, 77, 78, 79, 80, 81, 82, 83, 84, 85, 86, 87, 88, 89, 90, 91, 92, 93, 94, 95, 96, 97, 98, 99, 100, 101, 102, 103, 104, 105, 106, 107, 108, 109, 110, 111, 112, 113, 0, 114, 115, 116, 117, 118, 119, 120, 121, 122, 123, 124, 125, 126, 127, 128, 129, 130, 131, 132, 133, 134, 135] (by decide +kernel) (by decide +kernel)
set_option maxRecDepth 20000 in
theorem gX1_readInside_X1_readLevel : GoodIn wsX1_readInside (wsV RX1 34 RX1 yX1_readLevel wsX1_readLevel) := goodIn_app (goodIn_of _ (by decide +kernel)) ggX1_readInside_X1_readLevel
set_option maxRecDepth 20000 in
theorem ggX1_readInside_X1_next : GoodIn wsX1_readInside wsX1_next := goodIn_r _ [9, 1, 10, 11, 130, 131, 132, 133, 134, 135] (by decide +kernel) (by decide +kernel)
set_option maxRecDepth 20000 in
theorem gX1_readInside_X1_next : GoodIn wsX1_readInside (wsV RX1 56 RX1 yX1_next wsX1_next) := goodIn_app (goodIn_of _ (by decide +kernel)) ggX1_readInside_X1_next
theorem dX1_readInside_0 : decode cX1_readInside 0 = .ok (.aload_n 0, 1) := by decide +kernel
theorem dX1_readInside_1 : decode cX1_readInside 1 = .ok (.iconst 0, 1) := by decide +kernel
theorem dX1_readInside_2 : decode cX1_readInside 2 = .ok (.iload_n 1, 1) := by decide +kernel
theorem dX1_readInside_3 : decode cX1_readInside 3 = .ok (.invokevirtual 34, 3) := by decide +kernel
theorem dX1_readInside_6 : decode cX1_readInside 6 = .ok (.ifCond .eq 12, 3) := by decide +kernel
theorem dX1_readInside_9 : decode cX1_readInside 9 = .ok (.aload_n 0, 1) := by decide +kernel
theorem dX1_readInside_10 : decode cX1_readInside 10 = .ok (.invokevirtual 56, 3) := by decide +kernel
theorem dX1_readInside_13 : decode cX1_readInside 13 = .ok (.bipush 41, 2) := by decide +kernel
theorem dX1_readInside_15 : decode cX1_readInside 15 = .ok (.if_icmp .eq 5, 3) := by decide +kernel
theorem dX1_readInside_18 : decode cX1_readInside 18 = .ok (.iconst 0, 1) := by decide +kernel
theorem dX1_readInside_19 : decode cX1_readInside 19 = .ok (.ireturn, 1) := by decide +kernel
theorem dX1_readInside_20 : decode cX1_readInside 20 = .ok (.aload_n 0, 1) := by decide +kernel
theorem dX1_readInside_21 : decode cX1_readInside 21 = .ok (.dup, 1) := by decide +kernel
theorem dX1_readInside_22 : decode cX1_readInside 22 = .ok (.getfield 28, 3) := by decide +kernel
theorem dX1_readInside_25 : decode cX1_readInside 25 = .ok (.iconst 1, 1) := by decide +kernel
theorem dX1_readInside_26 : decode cX1_readInside 26 = .ok (.iadd, 1) := by decide +kernel
theorem dX1_readInside_27 : decode cX1_readInside 27 = .ok (.putfield 28, 3) := by decide +kernel
theorem dX1_readInside_30 : decode cX1_readInside 30 = .ok (.iconst 1, 1) := by decide +kernel
theorem dX1_readInside_31 : decode cX1_readInside 31 = .ok (.ireturn, 1) := by decide +kernel
set_option maxRecDepth 20000 in
theorem ggX1_readNumber_X1_next : GoodIn wsX1_readNumber wsX1_next := goodIn_r _ [6, 1, 7, 8, 18, 19, 20, 21, 22, 23] (by decide +kernel) (by decide +kernel)
set_option maxRecDepth 20000 in
theorem gX1_readNumber_X1_next : GoodIn wsX1_readNumber (wsV RX1 56 RX1 yX1_next wsX1_next) := goodIn_app (goodIn_of _ (by decide +kernel)) ggX1_readNumber_X1_next
set_option maxRecDepth 20000 in
theorem ggX1_readNumber_X1_isDigit : GoodIn wsX1_readNumber wsX1_isDigit := goodIn_r _ [11] (by decide +kernel) (by decide +kernel)
set_option maxRecDepth 20000 in
theorem gX1_readNumber_X1_isDigit : GoodIn wsX1_readNumber (va_wsS RX1 70 yX1_isDigit wsX1_isDigit) := goodIn_app (goodIn_of _ (by decide +kernel)) ggX1_readNumber_X1_isDigit
set_option maxRecDepth 20000 in
theorem ggX1_readNumber_X1_add : GoodIn wsX1_readNumber wsX1_add := goodIn_r _ [15, 16, 17, 18, 19, 20, 21, 22, 23] (by decide +kernel) (by decide +kernel)
set_option maxRecDepth 20000 in
theorem gX1_readNumber_X1_add : GoodIn wsX1_readNumber (wsV RX1 66 RX1 yX1_add wsX1_add) := goodIn_app (goodIn_of _ (by decide +kernel)) ggX1_readNumber_X1_add
theorem dX1_readNumber_0 : decode cX1_readNumber 0 = .ok (.iconst 0, 1) := by decide +kernel
theorem dX1_readNumber_1 : decode cX1_readNumber 1 = .ok (.istore_n 1, 1) := by decide +kernel
theorem dX1_readNumber_2 : decode cX1_readNumber 2 = .ok (.iconst 0, 1) := by decide +kernel
theorem dX1_readNumber_3 : decode cX1_readNumber 3 = .ok (.istore_n 2, 1) := by decide +kernel
theorem dX1_readNumber_4 : decode cX1_readNumber 4 = .ok (.iload_n 2, 1) := by decide +kernel
theorem dX1_readNumber_5 : decode cX1_readNumber 5 = .ok (.iconst 4, 1) := by decide +kernel
theorem dX1_readNumber_6 : decode cX1_readNumber 6 = .ok (.if_icmp .ge 42, 3) := by decide +kernel
theorem dX1_readNumber_9 : decode cX1_readNumber 9 = .ok (.aload_n 0, 1) := by decide +kernel
theorem dX1_readNumber_10 : decode cX1_readNumber 10 = .ok (.invokevirtual 56, 3) := by decide +kernel
theorem dX1_readNumber_13 : decode cX1_readNumber 13 = .ok (.invokestatic 70, 3) := by decide +kernel
theorem dX1_readNumber_16 : decode cX1_readNumber 16 = .ok (.ifCond .eq 32, 3) := by decide +kernel
theorem dX1_readNumber_19 : decode cX1_readNumber 19 = .ok (.bipush 10, 2) := by decide +kernel
theorem dX1_readNumber_21 : decode cX1_readNumber 21 = .ok (.iload_n 1, 1) := by decide +kernel
theorem dX1_readNumber_22 : decode cX1_readNumber 22 = .ok (.imul, 1) := by decide +kernel
theorem dX1_readNumber_23 : decode cX1_readNumber 23 = .ok (.aload_n 0, 1) := by decide +kernel
theorem dX1_readNumber_24 : decode cX1_readNumber 24 = .ok (.invokevirtual 56, 3) := by decide +kernel
theorem dX1_readNumber_27 : decode cX1_readNumber 27 = .ok (.iadd, 1) := by decide +kernel
theorem dX1_readNumber_28 : decode cX1_readNumber 28 = .ok (.bipush 48, 2) := by decide +kernel
theorem dX1_readNumber_30 : decode cX1_readNumber 30 = .ok (.isub, 1) := by decide +kernel
theorem dX1_readNumber_31 : decode cX1_readNumber 31 = .ok (.istore_n 1, 1) := by decide +kernel
theorem dX1_readNumber_32 : decode cX1_readNumber 32 = .ok (.aload_n 0, 1) := by decide +kernel
theorem dX1_readNumber_33 : decode cX1_readNumber 33 = .ok (.dup, 1) := by decide +kernel
theorem dX1_readNumber_34 : decode cX1_readNumber 34 = .ok (.getfield 28, 3) := by decide +kernel
theorem dX1_readNumber_37 : decode cX1_readNumber 37 = .ok (.iconst 1, 1) := by decide +kernel
theorem dX1_readNumber_38 : decode cX1_readNumber 38 = .ok (.iadd, 1) := by decide +kernel
theorem dX1_readNumber_39 : decode cX1_readNumber 39 = .ok (.putfield 28, 3) := by decide +kernel
theorem dX1_readNumber_42 : decode cX1_readNumber 42 = .ok (.iinc 2 1, 3) := by decide +kernel
theorem dX1_readNumber_45 : decode cX1_readNumber 45 = .ok (.goto (-41), 3) := by decide +kernel
theorem dX1_readNumber_48 : decode cX1_readNumber 48 = .ok (.aload_n 0, 1) := by decide +kernel
theorem dX1_readNumber_49 : decode cX1_readNumber 49 = .ok (.iload_n 1, 1) := by decide +kernel
theorem dX1_readNumber_50 : decode cX1_readNumber 50 = .ok (.invokevirtual 66, 3) := by decide +kernel
theorem dX1_readNumber_53 : decode cX1_readNumber 53 = .ok (.return_, 1) := by decide +kernel
theorem dX1_isDigit_0 : decode cX1_isDigit 0 = .ok (.iload_n 0, 1) := by decide +kernel
theorem dX1_isDigit_1 : decode cX1_isDigit 1 = .ok (.bipush 48, 2) := by decide +kernel
theorem dX1_isDigit_3 : decode cX1_isDigit 3 = .ok (.if_icmp .lt 13, 3) := by decide +kernel
theorem dX1_isDigit_6 : decode cX1_isDigit 6 = .ok (.iload_n 0, 1) := by decide +kernel
theorem dX1_isDigit_7 : decode cX1_isDigit 7 = .ok (.bipush 57, 2) := by decide +kernel
theorem dX1_isDigit_9 : decode cX1_isDigit 9 = .ok (.if_icmp .gt 7, 3) := by decide +kernel
theorem dX1_isDigit_12 : decode cX1_isDigit 12 = .ok (.iconst 1, 1) := by decide +kernel
theorem dX1_isDigit_13 : decode cX1_isDigit 13 = .ok (.goto 4, 3) := by decide +kernel
theorem dX1_isDigit_16 : decode cX1_isDigit 16 = .ok (.iconst 0, 1) := by decide +kernel
theorem dX1_isDigit_17 : decode cX1_isDigit 17 = .ok (.ireturn, 1) := by decide +kernel
theorem dX1_next_0 : decode cX1_next 0 = .ok (.aload_n 0, 1) := by decide +kernel
theorem dX1_next_1 : decode cX1_next 1 = .ok (.getfield 28, 3) := by decide +kernel
theorem dX1_next_4 : decode cX1_next 4 = .ok (.aload_n 0, 1) := by decide +kernel
theorem dX1_next_5 : decode cX1_next 5 = .ok (.getfield 24, 3) := by decide +kernel
theorem dX1_next_8 : decode cX1_next 8 = .ok (.if_icmp .ge 28, 3) := by decide +kernel
theorem dX1_next_11 : decode cX1_next 11 = .ok (.aload_n 0, 1) := by decide +kernel
theorem dX1_next_12 : decode cX1_next 12 = .ok (.getfield 28, 3) := by decide +kernel
theorem dX1_next_15 : decode cX1_next 15 = .ok (.aload_n 0, 1) := by decide +kernel
theorem dX1_next_16 : decode cX1_next 16 = .ok (.getfield 15, 3) := by decide +kernel
theorem dX1_next_19 : decode cX1_next 19 = .ok (.arraylength, 1) := by decide +kernel
theorem dX1_next_20 : decode cX1_next 20 = .ok (.if_icmp .ge 16, 3) := by decide +kernel
theorem dX1_next_23 : decode cX1_next 23 = .ok (.aload_n 0, 1) := by decide +kernel
theorem dX1_next_24 : decode cX1_next 24 = .ok (.getfield 15, 3) := by decide +kernel
theorem dX1_next_27 : decode cX1_next 27 = .ok (.aload_n 0, 1) := by decide +kernel
theorem dX1_next_28 : decode cX1_next 28 = .ok (.getfield 28, 3) := by decide +kernel
theorem dX1_next_31 : decode cX1_next 31 = .ok (.iaload, 1) := by decide +kernel
theorem dX1_next_32 : decode cX1_next 32 = .ok (.i2c, 1) := by decide +kernel
theorem dX1_next_33 : decode cX1_next 33 = .ok (.goto 4, 3) := by decide +kernel
theorem dX1_next_36 : decode cX1_next 36 = .ok (.iconst 0, 1) := by decide +kernel
theorem dX1_next_37 : decode cX1_next 37 = .ok (.ireturn, 1) := by decide +kernel
theorem dX1_add_0 : decode cX1_add 0 = .ok (.aload_n 0, 1) := by decide +kernel
theorem dX1_add_1 : decode cX1_add 1 = .ok (.getfield 31, 3) := by decide +kernel
theorem dX1_add_4 : decode cX1_add 4 = .ok (.aload_n 0, 1) := by decide +kernel
theorem dX1_add_5 : decode cX1_add 5 = .ok (.getfield 9, 3) := by decide +kernel
theorem dX1_add_8 : decode cX1_add 8 = .ok (.arraylength, 1) := by decide +kernel
theorem dX1_add_9 : decode cX1_add 9 = .ok (.if_icmp .ge 23, 3) := by decide +kernel
theorem dX1_add_12 : decode cX1_add 12 = .ok (.aload_n 0, 1) := by decide +kernel
theorem dX1_add_13 : decode cX1_add 13 = .ok (.getfield 9, 3) := by decide +kernel
theorem dX1_add_16 : decode cX1_add 16 = .ok (.aload_n 0, 1) := by decide +kernel
theorem dX1_add_17 : decode cX1_add 17 = .ok (.getfield 31, 3) := by decide +kernel
theorem dX1_add_20 : decode cX1_add 20 = .ok (.iload_n 1, 1) := by decide +kernel
theorem dX1_add_21 : decode cX1_add 21 = .ok (.iastore, 1) := by decide +kernel
theorem dX1_add_22 : decode cX1_add 22 = .ok (.aload_n 0, 1) := by decide +kernel
theorem dX1_add_23 : decode cX1_add 23 = .ok (.dup, 1) := by decide +kernel
theorem dX1_add_24 : decode cX1_add 24 = .ok (.getfield 31, 3) := by decide +kernel
theorem dX1_add_27 : decode cX1_add 27 = .ok (.iconst 1, 1) := by decide +kernel
theorem dX1_add_28 : decode cX1_add 28 = .ok (.iadd, 1) := by decide +kernel
theorem dX1_add_29 : decode cX1_add 29 = .ok (.putfield 31, 3) := by decide +kernel
theorem dX1_add_32 : decode cX1_add 32 = .ok (.return_, 1) := by decide +kernel
set_option maxRecDepth 20000 in
theorem ggX2_init_X2_measure : GoodIn wsX2_init wsX2_measure := goodIn_r _ [12, 7, 13, 14, 15, 16, 17, 18, 19, 11, 20, 6, 21, 22, 23, 24] (by decide +kernel) (by decide +kernel)
set_option maxRecDepth 20000 in
theorem gX2_init_X2_measure : GoodIn wsX2_init (wsV RX2 22 RX2 yX2_measure wsX2_measure) := goodIn_app (goodIn_of _ (by decide +kernel)) ggX2_init_X2_measure
theorem dX2_init_0 : decode cX2_init 0 = .ok (.aload_n 0, 1) := by decide +kernel
theorem dX2_init_1 : decode cX2_init 1 = .ok (.invokespecial 3, 3) := by decide +kernel
theorem dX2_init_4 : decode cX2_init 4 = .ok (.aload_n 0, 1) := by decide +kernel
theorem dX2_init_5 : decode cX2_init 5 = .ok (.iconst 0, 1) := by decide +kernel
theorem dX2_init_6 : decode cX2_init 6 = .ok (.putfield 9, 3) := by decide +kernel
theorem dX2_init_9 : decode cX2_init 9 = .ok (.aload_n 0, 1) := by decide +kernel
theorem dX2_init_10 : decode cX2_init 10 = .ok (.bipush 36, 2) := by decide +kernel
theorem dX2_init_12 : decode cX2_init 12 = .ok (.newarray .int, 2) := by decide +kernel
theorem dX2_init_14 : decode cX2_init 14 = .ok (.putfield 15, 3) := by decide +kernel
theorem dX2_init_17 : decode cX2_init 17 = .ok (.aload_n 0, 1) := by decide +kernel
theorem dX2_init_18 : decode cX2_init 18 = .ok (.bipush 36, 2) := by decide +kernel
theorem dX2_init_20 : decode cX2_init 20 = .ok (.newarray .int, 2) := by decide +kernel
theorem dX2_init_22 : decode cX2_init 22 = .ok (.putfield 19, 3) := by decide +kernel
theorem dX2_init_25 : decode cX2_init 25 = .ok (.aload_n 0, 1) := by decide +kernel
theorem dX2_init_26 : decode cX2_init 26 = .ok (.invokevirtual 22, 3) := by decide +kernel
theorem dX2_init_29 : decode cX2_init 29 = .ok (.return_, 1) := by decide +kernel
set_option maxRecDepth 20000 in
theorem ggX2_join_X2_measure : GoodIn wsX2_join wsX2_measure := goodIn_r _ [6, 7, 8, 9, 10, 11, 12, 13, 14, 5, 15, 1, 16, 17, 18, 19] (by decide +kernel) (by decide +kernel)
set_option maxRecDepth 20000 in
theorem gX2_join_X2_measure : GoodIn wsX2_join (wsV RX2 22 RX2 yX2_measure wsX2_measure) := goodIn_app (goodIn_of _ (by decide +kernel)) ggX2_join_X2_measure
theorem dX2_join_0 : decode cX2_join 0 = .ok (.aload_n 0, 1) := by decide +kernel
theorem dX2_join_1 : decode cX2_join 1 = .ok (.getfield 15, 3) := by decide +kernel
theorem dX2_join_4 : decode cX2_join 4 = .ok (.iload_n 1, 1) := by decide +kernel
theorem dX2_join_5 : decode cX2_join 5 = .ok (.bipush 6, 2) := by decide +kernel
theorem dX2_join_7 : decode cX2_join 7 = .ok (.imul, 1) := by decide +kernel
theorem dX2_join_8 : decode cX2_join 8 = .ok (.iload_n 2, 1) := by decide +kernel
theorem dX2_join_9 : decode cX2_join 9 = .ok (.iadd, 1) := by decide +kernel
theorem dX2_join_10 : decode cX2_join 10 = .ok (.iaload, 1) := by decide +kernel
theorem dX2_join_11 : decode cX2_join 11 = .ok (.istore 4, 2) := by decide +kernel
theorem dX2_join_13 : decode cX2_join 13 = .ok (.aload_n 0, 1) := by decide +kernel
theorem dX2_join_14 : decode cX2_join 14 = .ok (.getfield 15, 3) := by decide +kernel
theorem dX2_join_17 : decode cX2_join 17 = .ok (.iload_n 1, 1) := by decide +kernel
theorem dX2_join_18 : decode cX2_join 18 = .ok (.bipush 6, 2) := by decide +kernel
theorem dX2_join_20 : decode cX2_join 20 = .ok (.imul, 1) := by decide +kernel
theorem dX2_join_21 : decode cX2_join 21 = .ok (.iload_n 2, 1) := by decide +kernel
theorem dX2_join_22 : decode cX2_join 22 = .ok (.iadd, 1) := by decide +kernel
theorem dX2_join_23 : decode cX2_join 23 = .ok (.iload_n 3, 1) := by decide +kernel
theorem dX2_join_24 : decode cX2_join 24 = .ok (.iastore, 1) := by decide +kernel
theorem dX2_join_25 : decode cX2_join 25 = .ok (.aload_n 0, 1) := by decide +kernel
theorem dX2_join_26 : decode cX2_join 26 = .ok (.getfield 15, 3) := by decide +kernel
theorem dX2_join_29 : decode cX2_join 29 = .ok (.iload_n 2, 1) := by decide +kernel
theorem dX2_join_30 : decode cX2_join 30 = .ok (.bipush 6, 2) := by decide +kernel
theorem dX2_join_32 : decode cX2_join 32 = .ok (.imul, 1) := by decide +kernel
theorem dX2_join_33 : decode cX2_join 33 = .ok (.iload_n 1, 1) := by decide +kernel
theorem dX2_join_34 : decode cX2_join 34 = .ok (.iadd, 1) := by decide +kernel
theorem dX2_join_35 : decode cX2_join 35 = .ok (.iload_n 3, 1) := by decide +kernel
theorem dX2_join_36 : decode cX2_join 36 = .ok (.iastore, 1) := by decide +kernel
theorem dX2_join_37 : decode cX2_join 37 = .ok (.aload_n 0, 1) := by decide +kernel
theorem dX2_join_38 : decode cX2_join 38 = .ok (.invokevirtual 22, 3) := by decide +kernel
theorem dX2_join_41 : decode cX2_join 41 = .ok (.iload 4, 2) := by decide +kernel
theorem dX2_join_43 : decode cX2_join 43 = .ok (.ireturn, 1) := by decide +kernel
theorem dX2_years_0 : decode cX2_years 0 = .ok (.aload_n 0, 1) := by decide +kernel
theorem dX2_years_1 : decode cX2_years 1 = .ok (.getfield 19, 3) := by decide +kernel
theorem dX2_years_4 : decode cX2_years 4 = .ok (.iload_n 1, 1) := by decide +kernel
theorem dX2_years_5 : decode cX2_years 5 = .ok (.bipush 6, 2) := by decide +kernel
theorem dX2_years_7 : decode cX2_years 7 = .ok (.imul, 1) := by decide +kernel
theorem dX2_years_8 : decode cX2_years 8 = .ok (.iload_n 2, 1) := by decide +kernel
theorem dX2_years_9 : decode cX2_years 9 = .ok (.iadd, 1) := by decide +kernel
theorem dX2_years_10 : decode cX2_years 10 = .ok (.iaload, 1) := by decide +kernel
theorem dX2_years_11 : decode cX2_years 11 = .ok (.istore_n 3, 1) := by decide +kernel
theorem dX2_years_12 : decode cX2_years 12 = .ok (.iload_n 3, 1) := by decide +kernel
theorem dX2_years_13 : decode cX2_years 13 = .ok (.ldc 25, 2) := by decide +kernel
theorem dX2_years_15 : decode cX2_years 15 = .ok (.if_icmp .lt 7, 3) := by decide +kernel
theorem dX2_years_18 : decode cX2_years 18 = .ok (.iconst (-1), 1) := by decide +kernel
theorem dX2_years_19 : decode cX2_years 19 = .ok (.goto 7, 3) := by decide +kernel
theorem dX2_years_22 : decode cX2_years 22 = .ok (.iload_n 3, 1) := by decide +kernel
theorem dX2_years_23 : decode cX2_years 23 = .ok (.bipush 10, 2) := by decide +kernel
theorem dX2_years_25 : decode cX2_years 25 = .ok (.idiv, 1) := by decide +kernel
theorem dX2_years_26 : decode cX2_years 26 = .ok (.ireturn, 1) := by decide +kernel
theorem dX2_stops_0 : decode cX2_stops 0 = .ok (.aload_n 0, 1) := by decide +kernel
theorem dX2_stops_1 : decode cX2_stops 1 = .ok (.getfield 19, 3) := by decide +kernel
theorem dX2_stops_4 : decode cX2_stops 4 = .ok (.iload_n 1, 1) := by decide +kernel
theorem dX2_stops_5 : decode cX2_stops 5 = .ok (.bipush 6, 2) := by decide +kernel
theorem dX2_stops_7 : decode cX2_stops 7 = .ok (.imul, 1) := by decide +kernel
theorem dX2_stops_8 : decode cX2_stops 8 = .ok (.iload_n 2, 1) := by decide +kernel
theorem dX2_stops_9 : decode cX2_stops 9 = .ok (.iadd, 1) := by decide +kernel
theorem dX2_stops_10 : decode cX2_stops 10 = .ok (.iaload, 1) := by decide +kernel
theorem dX2_stops_11 : decode cX2_stops 11 = .ok (.bipush 10, 2) := by decide +kernel
theorem dX2_stops_13 : decode cX2_stops 13 = .ok (.irem, 1) := by decide +kernel
theorem dX2_stops_14 : decode cX2_stops 14 = .ok (.iconst 1, 1) := by decide +kernel
theorem dX2_stops_15 : decode cX2_stops 15 = .ok (.iadd, 1) := by decide +kernel
theorem dX2_stops_16 : decode cX2_stops 16 = .ok (.ireturn, 1) := by decide +kernel
set_option maxRecDepth 20000 in
theorem ggX2_stop_X2_nextStop : GoodIn wsX2_stop wsX2_nextStop := goodIn_r _ [5, 6, 7, 8, 9, 4, 10, 11, 12, 13, 14, 15] (by decide +kernel) (by decide +kernel)
set_option maxRecDepth 20000 in
theorem gX2_stop_X2_nextStop : GoodIn wsX2_stop (wsV RX2 26 RX2 yX2_nextStop wsX2_nextStop) := goodIn_app (goodIn_of _ (by decide +kernel)) ggX2_stop_X2_nextStop
theorem dX2_stop_0 : decode cX2_stop 0 = .ok (.iload_n 1, 1) := by decide +kernel
theorem dX2_stop_1 : decode cX2_stop 1 = .ok (.istore 4, 2) := by decide +kernel
theorem dX2_stop_3 : decode cX2_stop 3 = .ok (.iconst 0, 1) := by decide +kernel
theorem dX2_stop_4 : decode cX2_stop 4 = .ok (.istore 5, 2) := by decide +kernel
theorem dX2_stop_6 : decode cX2_stop 6 = .ok (.iload 5, 2) := by decide +kernel
theorem dX2_stop_8 : decode cX2_stop 8 = .ok (.iload_n 3, 1) := by decide +kernel
theorem dX2_stop_9 : decode cX2_stop 9 = .ok (.if_icmp .ge 18, 3) := by decide +kernel
theorem dX2_stop_12 : decode cX2_stop 12 = .ok (.aload_n 0, 1) := by decide +kernel
theorem dX2_stop_13 : decode cX2_stop 13 = .ok (.iload 4, 2) := by decide +kernel
theorem dX2_stop_15 : decode cX2_stop 15 = .ok (.iload_n 2, 1) := by decide +kernel
theorem dX2_stop_16 : decode cX2_stop 16 = .ok (.invokevirtual 26, 3) := by decide +kernel
theorem dX2_stop_19 : decode cX2_stop 19 = .ok (.istore 4, 2) := by decide +kernel
theorem dX2_stop_21 : decode cX2_stop 21 = .ok (.iinc 5 1, 3) := by decide +kernel
theorem dX2_stop_24 : decode cX2_stop 24 = .ok (.goto (-18), 3) := by decide +kernel
theorem dX2_stop_27 : decode cX2_stop 27 = .ok (.iload 4, 2) := by decide +kernel
theorem dX2_stop_29 : decode cX2_stop 29 = .ok (.ireturn, 1) := by decide +kernel
theorem dX2_become_0 : decode cX2_become 0 = .ok (.aload_n 0, 1) := by decide +kernel
theorem dX2_become_1 : decode cX2_become 1 = .ok (.aload_n 1, 1) := by decide +kernel
theorem dX2_become_2 : decode cX2_become 2 = .ok (.getfield 9, 3) := by decide +kernel
theorem dX2_become_5 : decode cX2_become 5 = .ok (.putfield 9, 3) := by decide +kernel
theorem dX2_become_8 : decode cX2_become 8 = .ok (.aload_n 1, 1) := by decide +kernel
theorem dX2_become_9 : decode cX2_become 9 = .ok (.getfield 15, 3) := by decide +kernel
theorem dX2_become_12 : decode cX2_become 12 = .ok (.iconst 0, 1) := by decide +kernel
theorem dX2_become_13 : decode cX2_become 13 = .ok (.aload_n 0, 1) := by decide +kernel
theorem dX2_become_14 : decode cX2_become 14 = .ok (.getfield 15, 3) := by decide +kernel
theorem dX2_become_17 : decode cX2_become 17 = .ok (.iconst 0, 1) := by decide +kernel
theorem dX2_become_18 : decode cX2_become 18 = .ok (.bipush 36, 2) := by decide +kernel
theorem dX2_become_20 : decode cX2_become 20 = .ok (.invokestatic 30, 3) := by decide +kernel
theorem dX2_become_23 : decode cX2_become 23 = .ok (.aload_n 1, 1) := by decide +kernel
theorem dX2_become_24 : decode cX2_become 24 = .ok (.getfield 19, 3) := by decide +kernel
theorem dX2_become_27 : decode cX2_become 27 = .ok (.iconst 0, 1) := by decide +kernel
theorem dX2_become_28 : decode cX2_become 28 = .ok (.aload_n 0, 1) := by decide +kernel
theorem dX2_become_29 : decode cX2_become 29 = .ok (.getfield 19, 3) := by decide +kernel
theorem dX2_become_32 : decode cX2_become 32 = .ok (.iconst 0, 1) := by decide +kernel
theorem dX2_become_33 : decode cX2_become 33 = .ok (.bipush 36, 2) := by decide +kernel
theorem dX2_become_35 : decode cX2_become 35 = .ok (.invokestatic 30, 3) := by decide +kernel
theorem dX2_become_38 : decode cX2_become 38 = .ok (.return_, 1) := by decide +kernel
set_option maxRecDepth 20000 in
theorem ggX2_nextStop_X2_step : GoodIn wsX2_nextStop wsX2_step := goodIn_r _ [6, 7, 8, 9, 10, 11] (by decide +kernel) (by decide +kernel)
set_option maxRecDepth 20000 in
theorem gX2_nextStop_X2_step : GoodIn wsX2_nextStop (wsV RX2 36 RX2 yX2_step wsX2_step) := goodIn_app (goodIn_of _ (by decide +kernel)) ggX2_nextStop_X2_step
theorem dX2_nextStop_0 : decode cX2_nextStop 0 = .ok (.iconst 0, 1) := by decide +kernel
theorem dX2_nextStop_1 : decode cX2_nextStop 1 = .ok (.istore_n 3, 1) := by decide +kernel
theorem dX2_nextStop_2 : decode cX2_nextStop 2 = .ok (.iload_n 3, 1) := by decide +kernel
theorem dX2_nextStop_3 : decode cX2_nextStop 3 = .ok (.bipush 6, 2) := by decide +kernel
theorem dX2_nextStop_5 : decode cX2_nextStop 5 = .ok (.if_icmp .ge 52, 3) := by decide +kernel
theorem dX2_nextStop_8 : decode cX2_nextStop 8 = .ok (.aload_n 0, 1) := by decide +kernel
theorem dX2_nextStop_9 : decode cX2_nextStop 9 = .ok (.getfield 19, 3) := by decide +kernel
theorem dX2_nextStop_12 : decode cX2_nextStop 12 = .ok (.iload_n 1, 1) := by decide +kernel
theorem dX2_nextStop_13 : decode cX2_nextStop 13 = .ok (.bipush 6, 2) := by decide +kernel
theorem dX2_nextStop_15 : decode cX2_nextStop 15 = .ok (.imul, 1) := by decide +kernel
theorem dX2_nextStop_16 : decode cX2_nextStop 16 = .ok (.iload_n 2, 1) := by decide +kernel
theorem dX2_nextStop_17 : decode cX2_nextStop 17 = .ok (.iadd, 1) := by decide +kernel
theorem dX2_nextStop_18 : decode cX2_nextStop 18 = .ok (.iaload, 1) := by decide +kernel
theorem dX2_nextStop_19 : decode cX2_nextStop 19 = .ok (.aload_n 0, 1) := by decide +kernel
theorem dX2_nextStop_20 : decode cX2_nextStop 20 = .ok (.getfield 19, 3) := by decide +kernel
theorem dX2_nextStop_23 : decode cX2_nextStop 23 = .ok (.iload_n 3, 1) := by decide +kernel
theorem dX2_nextStop_24 : decode cX2_nextStop 24 = .ok (.bipush 6, 2) := by decide +kernel
theorem dX2_nextStop_26 : decode cX2_nextStop 26 = .ok (.imul, 1) := by decide +kernel
theorem dX2_nextStop_27 : decode cX2_nextStop 27 = .ok (.iload_n 2, 1) := by decide +kernel
theorem dX2_nextStop_28 : decode cX2_nextStop 28 = .ok (.iadd, 1) := by decide +kernel
theorem dX2_nextStop_29 : decode cX2_nextStop 29 = .ok (.iaload, 1) := by decide +kernel
theorem dX2_nextStop_30 : decode cX2_nextStop 30 = .ok (.isub, 1) := by decide +kernel
theorem dX2_nextStop_31 : decode cX2_nextStop 31 = .ok (.istore 4, 2) := by decide +kernel
theorem dX2_nextStop_33 : decode cX2_nextStop 33 = .ok (.iload_n 3, 1) := by decide +kernel
theorem dX2_nextStop_34 : decode cX2_nextStop 34 = .ok (.iload_n 1, 1) := by decide +kernel
theorem dX2_nextStop_35 : decode cX2_nextStop 35 = .ok (.if_icmp .eq 16, 3) := by decide +kernel
theorem dX2_nextStop_38 : decode cX2_nextStop 38 = .ok (.iload 4, 2) := by decide +kernel
theorem dX2_nextStop_40 : decode cX2_nextStop 40 = .ok (.aload_n 0, 1) := by decide +kernel
theorem dX2_nextStop_41 : decode cX2_nextStop 41 = .ok (.iload_n 1, 1) := by decide +kernel
theorem dX2_nextStop_42 : decode cX2_nextStop 42 = .ok (.iload_n 3, 1) := by decide +kernel
theorem dX2_nextStop_43 : decode cX2_nextStop 43 = .ok (.invokevirtual 36, 3) := by decide +kernel
theorem dX2_nextStop_46 : decode cX2_nextStop 46 = .ok (.if_icmp .ne 5, 3) := by decide +kernel
theorem dX2_nextStop_49 : decode cX2_nextStop 49 = .ok (.iload_n 3, 1) := by decide +kernel
theorem dX2_nextStop_50 : decode cX2_nextStop 50 = .ok (.ireturn, 1) := by decide +kernel
theorem dX2_nextStop_51 : decode cX2_nextStop 51 = .ok (.iinc 3 1, 3) := by decide +kernel
theorem dX2_nextStop_54 : decode cX2_nextStop 54 = .ok (.goto (-52), 3) := by decide +kernel
theorem dX2_nextStop_57 : decode cX2_nextStop 57 = .ok (.iload_n 2, 1) := by decide +kernel
theorem dX2_nextStop_58 : decode cX2_nextStop 58 = .ok (.ireturn, 1) := by decide +kernel
theorem dX2_step_0 : decode cX2_step 0 = .ok (.iload_n 1, 1) := by decide +kernel
theorem dX2_step_1 : decode cX2_step 1 = .ok (.iload_n 2, 1) := by decide +kernel
theorem dX2_step_2 : decode cX2_step 2 = .ok (.if_icmp .ne 5, 3) := by decide +kernel
theorem dX2_step_5 : decode cX2_step 5 = .ok (.iconst 0, 1) := by decide +kernel
theorem dX2_step_6 : decode cX2_step 6 = .ok (.ireturn, 1) := by decide +kernel
theorem dX2_step_7 : decode cX2_step 7 = .ok (.aload_n 0, 1) := by decide +kernel
theorem dX2_step_8 : decode cX2_step 8 = .ok (.getfield 15, 3) := by decide +kernel
theorem dX2_step_11 : decode cX2_step 11 = .ok (.iload_n 1, 1) := by decide +kernel
theorem dX2_step_12 : decode cX2_step 12 = .ok (.bipush 6, 2) := by decide +kernel
theorem dX2_step_14 : decode cX2_step 14 = .ok (.imul, 1) := by decide +kernel
theorem dX2_step_15 : decode cX2_step 15 = .ok (.iload_n 2, 1) := by decide +kernel
theorem dX2_step_16 : decode cX2_step 16 = .ok (.iadd, 1) := by decide +kernel
theorem dX2_step_17 : decode cX2_step 17 = .ok (.iaload, 1) := by decide +kernel
theorem dX2_step_18 : decode cX2_step 18 = .ok (.istore_n 3, 1) := by decide +kernel
theorem dX2_step_19 : decode cX2_step 19 = .ok (.iload_n 3, 1) := by decide +kernel
theorem dX2_step_20 : decode cX2_step 20 = .ok (.ifCond .ne 8, 3) := by decide +kernel
theorem dX2_step_23 : decode cX2_step 23 = .ok (.ldc 25, 2) := by decide +kernel
theorem dX2_step_25 : decode cX2_step 25 = .ok (.goto 9, 3) := by decide +kernel
theorem dX2_step_28 : decode cX2_step 28 = .ok (.bipush 10, 2) := by decide +kernel
theorem dX2_step_30 : decode cX2_step 30 = .ok (.iload_n 3, 1) := by decide +kernel
theorem dX2_step_31 : decode cX2_step 31 = .ok (.imul, 1) := by decide +kernel
theorem dX2_step_32 : decode cX2_step 32 = .ok (.iconst 1, 1) := by decide +kernel
theorem dX2_step_33 : decode cX2_step 33 = .ok (.iadd, 1) := by decide +kernel
theorem dX2_step_34 : decode cX2_step 34 = .ok (.ireturn, 1) := by decide +kernel
set_option maxRecDepth 20000 in
theorem ggX2_measure_X2_step : GoodIn wsX2_measure wsX2_step := goodIn_r _ [10, 11, 12, 13, 14, 15] (by decide +kernel) (by decide +kernel)
set_option maxRecDepth 20000 in
theorem gX2_measure_X2_step : GoodIn wsX2_measure (wsV RX2 36 RX2 yX2_step wsX2_step) := goodIn_app (goodIn_of _ (by decide +kernel)) ggX2_measure_X2_step
theorem dX2_measure_0 : decode cX2_measure 0 = .ok (.iconst 0, 1) := by decide +kernel
theorem dX2_measure_1 : decode cX2_measure 1 = .ok (.istore_n 1, 1) := by decide +kernel
theorem dX2_measure_2 : decode cX2_measure 2 = .ok (.iload_n 1, 1) := by decide +kernel
theorem dX2_measure_3 : decode cX2_measure 3 = .ok (.bipush 36, 2) := by decide +kernel
theorem dX2_measure_5 : decode cX2_measure 5 = .ok (.if_icmp .ge 27, 3) := by decide +kernel
theorem dX2_measure_8 : decode cX2_measure 8 = .ok (.aload_n 0, 1) := by decide +kernel
theorem dX2_measure_9 : decode cX2_measure 9 = .ok (.getfield 19, 3) := by decide +kernel
theorem dX2_measure_12 : decode cX2_measure 12 = .ok (.iload_n 1, 1) := by decide +kernel
theorem dX2_measure_13 : decode cX2_measure 13 = .ok (.aload_n 0, 1) := by decide +kernel
theorem dX2_measure_14 : decode cX2_measure 14 = .ok (.iload_n 1, 1) := by decide +kernel
theorem dX2_measure_15 : decode cX2_measure 15 = .ok (.bipush 6, 2) := by decide +kernel
theorem dX2_measure_17 : decode cX2_measure 17 = .ok (.idiv, 1) := by decide +kernel
theorem dX2_measure_18 : decode cX2_measure 18 = .ok (.iload_n 1, 1) := by decide +kernel
theorem dX2_measure_19 : decode cX2_measure 19 = .ok (.bipush 6, 2) := by decide +kernel
theorem dX2_measure_21 : decode cX2_measure 21 = .ok (.irem, 1) := by decide +kernel
theorem dX2_measure_22 : decode cX2_measure 22 = .ok (.invokevirtual 36, 3) := by decide +kernel
theorem dX2_measure_25 : decode cX2_measure 25 = .ok (.iastore, 1) := by decide +kernel
theorem dX2_measure_26 : decode cX2_measure 26 = .ok (.iinc 1 1, 3) := by decide +kernel
theorem dX2_measure_29 : decode cX2_measure 29 = .ok (.goto (-27), 3) := by decide +kernel
theorem dX2_measure_32 : decode cX2_measure 32 = .ok (.iconst 0, 1) := by decide +kernel
theorem dX2_measure_33 : decode cX2_measure 33 = .ok (.istore_n 1, 1) := by decide +kernel
theorem dX2_measure_34 : decode cX2_measure 34 = .ok (.iload_n 1, 1) := by decide +kernel
theorem dX2_measure_35 : decode cX2_measure 35 = .ok (.bipush 6, 2) := by decide +kernel
theorem dX2_measure_37 : decode cX2_measure 37 = .ok (.if_icmp .ge 69, 3) := by decide +kernel
theorem dX2_measure_40 : decode cX2_measure 40 = .ok (.iconst 0, 1) := by decide +kernel
theorem dX2_measure_41 : decode cX2_measure 41 = .ok (.istore_n 2, 1) := by decide +kernel
theorem dX2_measure_42 : decode cX2_measure 42 = .ok (.iload_n 2, 1) := by decide +kernel
theorem dX2_measure_43 : decode cX2_measure 43 = .ok (.bipush 36, 2) := by decide +kernel
theorem dX2_measure_45 : decode cX2_measure 45 = .ok (.if_icmp .ge 55, 3) := by decide +kernel
theorem dX2_measure_48 : decode cX2_measure 48 = .ok (.aload_n 0, 1) := by decide +kernel
theorem dX2_measure_49 : decode cX2_measure 49 = .ok (.getfield 19, 3) := by decide +kernel
theorem dX2_measure_52 : decode cX2_measure 52 = .ok (.iload_n 2, 1) := by decide +kernel
theorem dX2_measure_53 : decode cX2_measure 53 = .ok (.bipush 6, 2) := by decide +kernel
theorem dX2_measure_55 : decode cX2_measure 55 = .ok (.idiv, 1) := by decide +kernel
theorem dX2_measure_56 : decode cX2_measure 56 = .ok (.bipush 6, 2) := by decide +kernel
theorem dX2_measure_58 : decode cX2_measure 58 = .ok (.imul, 1) := by decide +kernel
theorem dX2_measure_59 : decode cX2_measure 59 = .ok (.iload_n 1, 1) := by decide +kernel
theorem dX2_measure_60 : decode cX2_measure 60 = .ok (.iadd, 1) := by decide +kernel
theorem dX2_measure_61 : decode cX2_measure 61 = .ok (.iaload, 1) := by decide +kernel
theorem dX2_measure_62 : decode cX2_measure 62 = .ok (.aload_n 0, 1) := by decide +kernel
theorem dX2_measure_63 : decode cX2_measure 63 = .ok (.getfield 19, 3) := by decide +kernel
theorem dX2_measure_66 : decode cX2_measure 66 = .ok (.iload_n 1, 1) := by decide +kernel
theorem dX2_measure_67 : decode cX2_measure 67 = .ok (.bipush 6, 2) := by decide +kernel
theorem dX2_measure_69 : decode cX2_measure 69 = .ok (.imul, 1) := by decide +kernel
theorem dX2_measure_70 : decode cX2_measure 70 = .ok (.iload_n 2, 1) := by decide +kernel
theorem dX2_measure_71 : decode cX2_measure 71 = .ok (.bipush 6, 2) := by decide +kernel
theorem dX2_measure_73 : decode cX2_measure 73 = .ok (.irem, 1) := by decide +kernel
theorem dX2_measure_74 : decode cX2_measure 74 = .ok (.iadd, 1) := by decide +kernel
theorem dX2_measure_75 : decode cX2_measure 75 = .ok (.iaload, 1) := by decide +kernel
theorem dX2_measure_76 : decode cX2_measure 76 = .ok (.iadd, 1) := by decide +kernel
theorem dX2_measure_77 : decode cX2_measure 77 = .ok (.istore_n 3, 1) := by decide +kernel
theorem dX2_measure_78 : decode cX2_measure 78 = .ok (.aload_n 0, 1) := by decide +kernel
theorem dX2_measure_79 : decode cX2_measure 79 = .ok (.getfield 19, 3) := by decide +kernel
theorem dX2_measure_82 : decode cX2_measure 82 = .ok (.iload_n 2, 1) := by decide +kernel
theorem dX2_measure_83 : decode cX2_measure 83 = .ok (.aload_n 0, 1) := by decide +kernel
theorem dX2_measure_84 : decode cX2_measure 84 = .ok (.getfield 19, 3) := by decide +kernel
theorem dX2_measure_87 : decode cX2_measure 87 = .ok (.iload_n 2, 1) := by decide +kernel
theorem dX2_measure_88 : decode cX2_measure 88 = .ok (.iaload, 1) := by decide +kernel
theorem dX2_measure_89 : decode cX2_measure 89 = .ok (.iload_n 3, 1) := by decide +kernel
theorem dX2_measure_90 : decode cX2_measure 90 = .ok (.invokestatic 39, 3) := by decide +kernel
theorem dX2_measure_93 : decode cX2_measure 93 = .ok (.iastore, 1) := by decide +kernel
theorem dX2_measure_94 : decode cX2_measure 94 = .ok (.iinc 2 1, 3) := by decide +kernel
theorem dX2_measure_97 : decode cX2_measure 97 = .ok (.goto (-55), 3) := by decide +kernel
theorem dX2_measure_100 : decode cX2_measure 100 = .ok (.iinc 1 1, 3) := by decide +kernel
theorem dX2_measure_103 : decode cX2_measure 103 = .ok (.goto (-69), 3) := by decide +kernel
theorem dX2_measure_106 : decode cX2_measure 106 = .ok (.return_, 1) := by decide +kernel
theorem dX3_init_0 : decode cX3_init 0 = .ok (.aload_n 0, 1) := by decide +kernel
theorem dX3_init_1 : decode cX3_init 1 = .ok (.invokespecial 3, 3) := by decide +kernel
theorem dX3_init_4 : decode cX3_init 4 = .ok (.aload_n 0, 1) := by decide +kernel
theorem dX3_init_5 : decode cX3_init 5 = .ok (.iconst 0, 1) := by decide +kernel
theorem dX3_init_6 : decode cX3_init 6 = .ok (.putfield 9, 3) := by decide +kernel
theorem dX3_init_9 : decode cX3_init 9 = .ok (.aload_n 0, 1) := by decide +kernel
theorem dX3_init_10 : decode cX3_init 10 = .ok (.iconst 0, 1) := by decide +kernel
theorem dX3_init_11 : decode cX3_init 11 = .ok (.putfield 15, 3) := by decide +kernel
theorem dX3_init_14 : decode cX3_init 14 = .ok (.aload_n 0, 1) := by decide +kernel
theorem dX3_init_15 : decode cX3_init 15 = .ok (.bipush 40, 2) := by decide +kernel
theorem dX3_init_17 : decode cX3_init 17 = .ok (.newarray .int, 2) := by decide +kernel
theorem dX3_init_19 : decode cX3_init 19 = .ok (.putfield 18, 3) := by decide +kernel
theorem dX3_init_22 : decode cX3_init 22 = .ok (.return_, 1) := by decide +kernel
set_option maxRecDepth 20000 in
theorem ggX3_become_J7_fill_53178 : GoodIn wsX3_become wsJ7_fill_53178 := goodIn_r _ [7] (by decide +kernel) (by decide +kernel)
set_option maxRecDepth 20000 in
theorem gX3_become_J7_fill_53178 : GoodIn wsX3_become (va_wsS RX3 22 yJ7_fill_53178 wsJ7_fill_53178) := goodIn_app (goodIn_of _ (by decide +kernel)) ggX3_become_J7_fill_53178
theorem dX3_become_0 : decode cX3_become 0 = .ok (.aload_n 0, 1) := by decide +kernel
theorem dX3_become_1 : decode cX3_become 1 = .ok (.iload_n 1, 1) := by decide +kernel
theorem dX3_become_2 : decode cX3_become 2 = .ok (.putfield 9, 3) := by decide +kernel
theorem dX3_become_5 : decode cX3_become 5 = .ok (.aload_n 0, 1) := by decide +kernel
theorem dX3_become_6 : decode cX3_become 6 = .ok (.iload_n 2, 1) := by decide +kernel
theorem dX3_become_7 : decode cX3_become 7 = .ok (.putfield 15, 3) := by decide +kernel
theorem dX3_become_10 : decode cX3_become 10 = .ok (.aload_n 0, 1) := by decide +kernel
theorem dX3_become_11 : decode cX3_become 11 = .ok (.getfield 18, 3) := by decide +kernel
theorem dX3_become_14 : decode cX3_become 14 = .ok (.iconst 0, 1) := by decide +kernel
theorem dX3_become_15 : decode cX3_become 15 = .ok (.invokestatic 22, 3) := by decide +kernel
theorem dX3_become_18 : decode cX3_become 18 = .ok (.return_, 1) := by decide +kernel
theorem dX3_cut_0 : decode cX3_cut 0 = .ok (.aload_n 0, 1) := by decide +kernel
theorem dX3_cut_1 : decode cX3_cut 1 = .ok (.getfield 9, 3) := by decide +kernel
theorem dX3_cut_4 : decode cX3_cut 4 = .ok (.bipush 8, 2) := by decide +kernel
theorem dX3_cut_6 : decode cX3_cut 6 = .ok (.if_icmp .ne 8, 3) := by decide +kernel
theorem dX3_cut_9 : decode cX3_cut 9 = .ok (.iload_n 1, 1) := by decide +kernel
theorem dX3_cut_10 : decode cX3_cut 10 = .ok (.i2b, 1) := by decide +kernel
theorem dX3_cut_11 : decode cX3_cut 11 = .ok (.goto 18, 3) := by decide +kernel
theorem dX3_cut_14 : decode cX3_cut 14 = .ok (.aload_n 0, 1) := by decide +kernel
theorem dX3_cut_15 : decode cX3_cut 15 = .ok (.getfield 9, 3) := by decide +kernel
theorem dX3_cut_18 : decode cX3_cut 18 = .ok (.bipush 16, 2) := by decide +kernel
theorem dX3_cut_20 : decode cX3_cut 20 = .ok (.if_icmp .ne 8, 3) := by decide +kernel
theorem dX3_cut_23 : decode cX3_cut 23 = .ok (.iload_n 1, 1) := by decide +kernel
theorem dX3_cut_24 : decode cX3_cut 24 = .ok (.i2s, 1) := by decide +kernel
theorem dX3_cut_25 : decode cX3_cut 25 = .ok (.goto 4, 3) := by decide +kernel
theorem dX3_cut_28 : decode cX3_cut 28 = .ok (.iload_n 1, 1) := by decide +kernel
theorem dX3_cut_29 : decode cX3_cut 29 = .ok (.ireturn, 1) := by decide +kernel
theorem dX3_holds_0 : decode cX3_holds 0 = .ok (.iload_n 1, 1) := by decide +kernel
theorem dX3_holds_1 : decode cX3_holds 1 = .ok (.ifCond .lt 29, 3) := by decide +kernel
theorem dX3_holds_4 : decode cX3_holds 4 = .ok (.iload_n 2, 1) := by decide +kernel
theorem dX3_holds_5 : decode cX3_holds 5 = .ok (.ifCond .lt 25, 3) := by decide +kernel
theorem dX3_holds_8 : decode cX3_holds 8 = .ok (.iload_n 2, 1) := by decide +kernel
theorem dX3_holds_9 : decode cX3_holds 9 = .ok (.aload_n 0, 1) := by decide +kernel
theorem dX3_holds_10 : decode cX3_holds 10 = .ok (.getfield 15, 3) := by decide +kernel
theorem dX3_holds_13 : decode cX3_holds 13 = .ok (.if_icmp .gt 17, 3) := by decide +kernel
theorem dX3_holds_16 : decode cX3_holds 16 = .ok (.iload_n 1, 1) := by decide +kernel
theorem dX3_holds_17 : decode cX3_holds 17 = .ok (.aload_n 0, 1) := by decide +kernel
theorem dX3_holds_18 : decode cX3_holds 18 = .ok (.getfield 15, 3) := by decide +kernel
theorem dX3_holds_21 : decode cX3_holds 21 = .ok (.iload_n 2, 1) := by decide +kernel
theorem dX3_holds_22 : decode cX3_holds 22 = .ok (.isub, 1) := by decide +kernel
theorem dX3_holds_23 : decode cX3_holds 23 = .ok (.if_icmp .gt 7, 3) := by decide +kernel
theorem dX3_holds_26 : decode cX3_holds 26 = .ok (.iconst 1, 1) := by decide +kernel
theorem dX3_holds_27 : decode cX3_holds 27 = .ok (.goto 4, 3) := by decide +kernel
theorem dX3_holds_30 : decode cX3_holds 30 = .ok (.iconst 0, 1) := by decide +kernel
theorem dX3_holds_31 : decode cX3_holds 31 = .ok (.ireturn, 1) := by decide +kernel
theorem dX4_init_0 : decode cX4_init 0 = .ok (.aload_n 0, 1) := by decide +kernel
theorem dX4_init_1 : decode cX4_init 1 = .ok (.invokespecial 3, 3) := by decide +kernel
theorem dX4_init_4 : decode cX4_init 4 = .ok (.aload_n 0, 1) := by decide +kernel
theorem dX4_init_5 : decode cX4_init 5 = .ok (.aload_n 1, 1) := by decide +kernel
theorem dX4_init_6 : decode cX4_init 6 = .ok (.putfield 9, 3) := by decide +kernel
theorem dX4_init_9 : decode cX4_init 9 = .ok (.aload_n 0, 1) := by decide +kernel
theorem dX4_init_10 : decode cX4_init 10 = .ok (.bipush 6, 2) := by decide +kernel
theorem dX4_init_12 : decode cX4_init 12 = .ok (.newarray .int, 2) := by decide +kernel
theorem dX4_init_14 : decode cX4_init 14 = .ok (.putfield 15, 3) := by decide +kernel
theorem dX4_init_17 : decode cX4_init 17 = .ok (.return_, 1) := by decide +kernel
set_option maxRecDepth 20000 in
theorem ggX4_begin_J7_fill_53178 : GoodIn wsX4_begin wsJ7_fill_53178 := goodIn_r _ [11] (by decide +kernel) (by decide +kernel)
set_option maxRecDepth 20000 in
theorem gX4_begin_J7_fill_53178 : GoodIn wsX4_begin (va_wsS RX4 38 yJ7_fill_53178 wsJ7_fill_53178) := goodIn_app (goodIn_of _ (by decide +kernel)) ggX4_begin_J7_fill_53178
set_option maxRecDepth 20000 in
theorem ggX4_begin_X4_seek : GoodIn wsX4_begin wsX4_seek := goodIn_r _ [16, 5, 17, 18, 19, 1, 2, 6, 20, 21, 22, 23, 24, 25, 26, 27, 28, 29, 30, 31, 32, 33, 34, 35, 36, 37, 38, 39, 40, 41, 42, 43, 44, 45, 46, 47, 48, 49, 50, 51] (by decide +kernel) (by decide +kernel)
set_option maxRecDepth 20000 in
theorem gX4_begin_X4_seek : GoodIn wsX4_begin (wsV RX4 44 RX4 yX4_seek wsX4_seek) := goodIn_app (goodIn_of _ (by decide +kernel)) ggX4_begin_X4_seek
theorem dX4_begin_0 : decode cX4_begin 0 = .ok (.aload_n 0, 1) := by decide +kernel
theorem dX4_begin_1 : decode cX4_begin 1 = .ok (.iload_n 1, 1) := by decide +kernel
theorem dX4_begin_2 : decode cX4_begin 2 = .ok (.putfield 19, 3) := by decide +kernel
theorem dX4_begin_5 : decode cX4_begin 5 = .ok (.aload_n 0, 1) := by decide +kernel
theorem dX4_begin_6 : decode cX4_begin 6 = .ok (.iload_n 2, 1) := by decide +kernel
theorem dX4_begin_7 : decode cX4_begin 7 = .ok (.putfield 23, 3) := by decide +kernel
theorem dX4_begin_10 : decode cX4_begin 10 = .ok (.aload_n 0, 1) := by decide +kernel
theorem dX4_begin_11 : decode cX4_begin 11 = .ok (.iconst 0, 1) := by decide +kernel
theorem dX4_begin_12 : decode cX4_begin 12 = .ok (.putfield 26, 3) := by decide +kernel
theorem dX4_begin_15 : decode cX4_begin 15 = .ok (.aload_n 0, 1) := by decide +kernel
theorem dX4_begin_16 : decode cX4_begin 16 = .ok (.iconst (-1), 1) := by decide +kernel
theorem dX4_begin_17 : decode cX4_begin 17 = .ok (.putfield 29, 3) := by decide +kernel
theorem dX4_begin_20 : decode cX4_begin 20 = .ok (.aload_n 0, 1) := by decide +kernel
theorem dX4_begin_21 : decode cX4_begin 21 = .ok (.iconst 0, 1) := by decide +kernel
theorem dX4_begin_22 : decode cX4_begin 22 = .ok (.putfield 32, 3) := by decide +kernel
theorem dX4_begin_25 : decode cX4_begin 25 = .ok (.aload_n 0, 1) := by decide +kernel
theorem dX4_begin_26 : decode cX4_begin 26 = .ok (.iconst 0, 1) := by decide +kernel
theorem dX4_begin_27 : decode cX4_begin 27 = .ok (.putfield 35, 3) := by decide +kernel
theorem dX4_begin_30 : decode cX4_begin 30 = .ok (.aload_n 0, 1) := by decide +kernel
theorem dX4_begin_31 : decode cX4_begin 31 = .ok (.getfield 15, 3) := by decide +kernel
theorem dX4_begin_34 : decode cX4_begin 34 = .ok (.iconst (-1), 1) := by decide +kernel
theorem dX4_begin_35 : decode cX4_begin 35 = .ok (.invokestatic 38, 3) := by decide +kernel
theorem dX4_begin_38 : decode cX4_begin 38 = .ok (.aload_n 0, 1) := by decide +kernel
theorem dX4_begin_39 : decode cX4_begin 39 = .ok (.invokevirtual 44, 3) := by decide +kernel
theorem dX4_begin_42 : decode cX4_begin 42 = .ok (.return_, 1) := by decide +kernel
set_option maxRecDepth 20000 in
theorem ggX4_standsIn_X4_begin : GoodIn wsX4_standsIn wsX4_begin := goodIn_r _ [6, 7, 8, 1, 9, 10, 11, 12, 13, 14, 15, 16, 17, 18, 19, 5, 20, 21, 22, 23, 24, 25, 26, 27, 28, 29, 30, 31, 32, 33, 34, 35, 36, 92, 93, 94, 95, 96, 97, 98, 99, 100, 101, 102, 103, 104, 105, 106, 107, 108, 109, 110] (by decide +kernel) (by decide +kernel)
set_option maxRecDepth 20000 in
theorem gX4_standsIn_X4_begin : GoodIn wsX4_standsIn (wsV RX4 47 RX4 yX4_begin wsX4_begin) := goodIn_app (goodIn_of _ (by decide +kernel)) ggX4_standsIn_X4_begin
set_option maxRecDepth 20000 in
theorem ggX4_standsIn_X4_nextYear : GoodIn wsX4_standsIn wsX4_nextYear := goodIn_r _ [40, 21, 41, 23, 10, 42, 43, 11, 44, 45, 46, 47, 48, 49, 50, 5, 51, 22, 52, 53, 54, 55, 24, 92, 93, 94, 95, 96, 97, 98, 99, 100, 101, 102, 103, 104, 105, 106, 107, 108, 109, 110] (by decide +kernel) (by decide +kernel)
set_option maxRecDepth 20000 in
theorem gX4_standsIn_X4_nextYear : GoodIn wsX4_standsIn (wsV RX4 51 RX4 yX4_nextYear wsX4_nextYear) := goodIn_app (goodIn_of _ (by decide +kernel)) ggX4_standsIn_X4_nextYear
set_option maxRecDepth 20000 in
theorem ggX4_standsIn_X4_pass : GoodIn wsX4_standsIn wsX4_pass := goodIn_r _ [59, 21, 23, 10, 41, 43, 11, 60, 61, 62, 5, 63, 1, 9, 48, 49, 50, 51, 22, 64, 65, 66, 67, 68, 69, 12, 70, 71, 46, 72, 73, 74, 75, 28, 76, 77, 78, 79, 80, 81, 82, 17, 18, 19, 20, 7, 8, 24, 25, 26, 27, 29, 30, 31, 32, 33, 34, 35, 36, 52, 53, 54, 55, 83, 84, 85, 86, 87, 88, 89, 90, 91, 92, 93, 94, 95, 96, 97, 98, 99, 100, 101, 102, 103, 104, 105, 106, 107, 108, 109, 110] (by decide +kernel) (by decide +kernel)
set_option maxRecDepth 20000 in
theorem gX4_standsIn_X4_pass : GoodIn wsX4_standsIn (wsV RX4 55 RX4 yX4_pass wsX4_pass) := goodIn_app (goodIn_of _ (by decide +kernel)) ggX4_standsIn_X4_pass
set_option maxRecDepth 20000 in
theorem ggX4_standsIn_X4_endOver : GoodIn wsX4_standsIn wsX4_endOver := goodIn_r _ [63, 1, 9, 92, 93, 94, 95, 96, 97, 98, 99] (by decide +kernel) (by decide +kernel)
set_option maxRecDepth 20000 in
theorem gX4_standsIn_X4_endOver : GoodIn wsX4_standsIn (wsV RX4 59 RX4 yX4_endOver wsX4_endOver) := goodIn_app (goodIn_of _ (by decide +kernel)) ggX4_standsIn_X4_endOver
theorem dX4_standsIn_0 : decode cX4_standsIn 0 = .ok (.aload_n 0, 1) := by decide +kernel
theorem dX4_standsIn_1 : decode cX4_standsIn 1 = .ok (.iload_n 1, 1) := by decide +kernel
theorem dX4_standsIn_2 : decode cX4_standsIn 2 = .ok (.iload_n 2, 1) := by decide +kernel
theorem dX4_standsIn_3 : decode cX4_standsIn 3 = .ok (.invokevirtual 47, 3) := by decide +kernel
theorem dX4_standsIn_6 : decode cX4_standsIn 6 = .ok (.iconst 0, 1) := by decide +kernel
theorem dX4_standsIn_7 : decode cX4_standsIn 7 = .ok (.istore 4, 2) := by decide +kernel
theorem dX4_standsIn_9 : decode cX4_standsIn 9 = .ok (.iload 4, 2) := by decide +kernel
theorem dX4_standsIn_11 : decode cX4_standsIn 11 = .ok (.sipush 160, 3) := by decide +kernel
theorem dX4_standsIn_14 : decode cX4_standsIn 14 = .ok (.if_icmp .gt 30, 3) := by decide +kernel
theorem dX4_standsIn_17 : decode cX4_standsIn 17 = .ok (.aload_n 0, 1) := by decide +kernel
theorem dX4_standsIn_18 : decode cX4_standsIn 18 = .ok (.invokevirtual 51, 3) := by decide +kernel
theorem dX4_standsIn_21 : decode cX4_standsIn 21 = .ok (.istore 5, 2) := by decide +kernel
theorem dX4_standsIn_23 : decode cX4_standsIn 23 = .ok (.iload 5, 2) := by decide +kernel
theorem dX4_standsIn_25 : decode cX4_standsIn 25 = .ok (.iload_n 3, 1) := by decide +kernel
theorem dX4_standsIn_26 : decode cX4_standsIn 26 = .ok (.if_icmp .le 6, 3) := by decide +kernel
theorem dX4_standsIn_29 : decode cX4_standsIn 29 = .ok (.goto 15, 3) := by decide +kernel
theorem dX4_standsIn_32 : decode cX4_standsIn 32 = .ok (.aload_n 0, 1) := by decide +kernel
theorem dX4_standsIn_33 : decode cX4_standsIn 33 = .ok (.iload 5, 2) := by decide +kernel
theorem dX4_standsIn_35 : decode cX4_standsIn 35 = .ok (.invokevirtual 55, 3) := by decide +kernel
theorem dX4_standsIn_38 : decode cX4_standsIn 38 = .ok (.iinc 4 1, 3) := by decide +kernel
theorem dX4_standsIn_41 : decode cX4_standsIn 41 = .ok (.goto (-32), 3) := by decide +kernel
theorem dX4_standsIn_44 : decode cX4_standsIn 44 = .ok (.aload_n 0, 1) := by decide +kernel
theorem dX4_standsIn_45 : decode cX4_standsIn 45 = .ok (.iload_n 3, 1) := by decide +kernel
theorem dX4_standsIn_46 : decode cX4_standsIn 46 = .ok (.invokevirtual 59, 3) := by decide +kernel
theorem dX4_standsIn_49 : decode cX4_standsIn 49 = .ok (.aload_n 0, 1) := by decide +kernel
theorem dX4_standsIn_50 : decode cX4_standsIn 50 = .ok (.getfield 26, 3) := by decide +kernel
theorem dX4_standsIn_53 : decode cX4_standsIn 53 = .ok (.ireturn, 1) := by decide +kernel
theorem dX4_isBound_0 : decode cX4_isBound 0 = .ok (.aload_n 0, 1) := by decide +kernel
theorem dX4_isBound_1 : decode cX4_isBound 1 = .ok (.getfield 26, 3) := by decide +kernel
theorem dX4_isBound_4 : decode cX4_isBound 4 = .ok (.iconst 2, 1) := by decide +kernel
theorem dX4_isBound_5 : decode cX4_isBound 5 = .ok (.if_icmp .lt 7, 3) := by decide +kernel
theorem dX4_isBound_8 : decode cX4_isBound 8 = .ok (.iconst 1, 1) := by decide +kernel
theorem dX4_isBound_9 : decode cX4_isBound 9 = .ok (.goto 4, 3) := by decide +kernel
theorem dX4_isBound_12 : decode cX4_isBound 12 = .ok (.iconst 0, 1) := by decide +kernel
theorem dX4_isBound_13 : decode cX4_isBound 13 = .ok (.ireturn, 1) := by decide +kernel
set_option maxRecDepth 20000 in
theorem ggX4_nextYear_X4_hasArrival : GoodIn wsX4_nextYear wsX4_hasArrival := goodIn_r _ [16, 4, 1, 17, 23, 24, 25, 26, 27, 28, 29, 30, 31, 32, 33, 34, 35, 36, 37, 38, 39, 40, 41] (by decide +kernel) (by decide +kernel)
set_option maxRecDepth 20000 in
theorem gX4_nextYear_X4_hasArrival : GoodIn wsX4_nextYear (wsV RX4 62 RX4 yX4_hasArrival wsX4_hasArrival) := goodIn_app (goodIn_of _ (by decide +kernel)) ggX4_nextYear_X4_hasArrival
set_option maxRecDepth 20000 in
theorem ggX4_nextYear_X4_hasSent : GoodIn wsX4_nextYear wsX4_hasSent := goodIn_r _ [21, 7, 1, 22, 23, 24, 25, 26, 27, 28, 29, 30, 31, 32, 33, 34, 35, 36, 37, 38, 39, 40, 41] (by decide +kernel) (by decide +kernel)
set_option maxRecDepth 20000 in
theorem gX4_nextYear_X4_hasSent : GoodIn wsX4_nextYear (wsV RX4 75 RX4 yX4_hasSent wsX4_hasSent) := goodIn_app (goodIn_of _ (by decide +kernel)) ggX4_nextYear_X4_hasSent
theorem dX4_nextYear_0 : decode cX4_nextYear 0 = .ok (.aload_n 0, 1) := by decide +kernel
theorem dX4_nextYear_1 : decode cX4_nextYear 1 = .ok (.invokevirtual 62, 3) := by decide +kernel
theorem dX4_nextYear_4 : decode cX4_nextYear 4 = .ok (.ifCond .eq 26, 3) := by decide +kernel
theorem dX4_nextYear_7 : decode cX4_nextYear 7 = .ok (.aload_n 0, 1) := by decide +kernel
theorem dX4_nextYear_8 : decode cX4_nextYear 8 = .ok (.getfield 9, 3) := by decide +kernel
theorem dX4_nextYear_11 : decode cX4_nextYear 11 = .ok (.getfield 66, 3) := by decide +kernel
theorem dX4_nextYear_14 : decode cX4_nextYear 14 = .ok (.aload_n 0, 1) := by decide +kernel
theorem dX4_nextYear_15 : decode cX4_nextYear 15 = .ok (.getfield 9, 3) := by decide +kernel
theorem dX4_nextYear_18 : decode cX4_nextYear 18 = .ok (.getfield 71, 3) := by decide +kernel
theorem dX4_nextYear_21 : decode cX4_nextYear 21 = .ok (.aload_n 0, 1) := by decide +kernel
theorem dX4_nextYear_22 : decode cX4_nextYear 22 = .ok (.getfield 32, 3) := by decide +kernel
theorem dX4_nextYear_25 : decode cX4_nextYear 25 = .ok (.iaload, 1) := by decide +kernel
theorem dX4_nextYear_26 : decode cX4_nextYear 26 = .ok (.iaload, 1) := by decide +kernel
theorem dX4_nextYear_27 : decode cX4_nextYear 27 = .ok (.goto 5, 3) := by decide +kernel
theorem dX4_nextYear_30 : decode cX4_nextYear 30 = .ok (.ldc 74, 2) := by decide +kernel
theorem dX4_nextYear_32 : decode cX4_nextYear 32 = .ok (.istore_n 1, 1) := by decide +kernel
theorem dX4_nextYear_33 : decode cX4_nextYear 33 = .ok (.aload_n 0, 1) := by decide +kernel
theorem dX4_nextYear_34 : decode cX4_nextYear 34 = .ok (.invokevirtual 75, 3) := by decide +kernel
theorem dX4_nextYear_37 : decode cX4_nextYear 37 = .ok (.ifCond .eq 18, 3) := by decide +kernel
theorem dX4_nextYear_40 : decode cX4_nextYear 40 = .ok (.aload_n 0, 1) := by decide +kernel
theorem dX4_nextYear_41 : decode cX4_nextYear 41 = .ok (.getfield 9, 3) := by decide +kernel
theorem dX4_nextYear_44 : decode cX4_nextYear 44 = .ok (.getfield 78, 3) := by decide +kernel
theorem dX4_nextYear_47 : decode cX4_nextYear 47 = .ok (.aload_n 0, 1) := by decide +kernel
theorem dX4_nextYear_48 : decode cX4_nextYear 48 = .ok (.getfield 35, 3) := by decide +kernel
theorem dX4_nextYear_51 : decode cX4_nextYear 51 = .ok (.iaload, 1) := by decide +kernel
