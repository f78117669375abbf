theorem dX4_nextYear_52 : decode cX4_nextYear 52 = .ok (.goto 5, 3) := by decide +kernel
theorem dX4_nextYear_55 : decode cX4_nextYear 55 = .ok (.ldc 74, 2) := by decide +kernel
theorem dX4_nextYear_57 : decode cX4_nextYear 57 = .ok (.istore_n 2, 1) := by decide +kernel
theorem dX4_nextYear_58 : decode cX4_nextYear 58 = .ok (.iload_n 1, 1) := by decide +kernel
theorem dX4_nextYear_59 : decode cX4_nextYear 59 = .ok (.iload_n 2, 1) := by decide +kernel
theorem dX4_nextYear_60 : decode cX4_nextYear 60 = .ok (.invokestatic 81, 3) := by decide +kernel
theorem dX4_nextYear_63 : decode cX4_nextYear 63 = .ok (.ireturn, 1) := by decide +kernel
set_option maxRecDepth 20000 in
theorem ggX4_pass_X4_endOver : GoodIn wsX4_pass wsX4_endOver := goodIn_r _ [11, 12, 13, 72, 73, 74, 75, 76, 77, 78, 79] (by decide +kernel) (by decide +kernel)
set_option maxRecDepth 20000 in
theorem gX4_pass_X4_endOver : GoodIn wsX4_pass (wsV RX4 59 RX4 yX4_endOver wsX4_endOver) := goodIn_app (goodIn_of _ (by decide +kernel)) ggX4_pass_X4_endOver
set_option maxRecDepth 20000 in
theorem ggX4_pass_X4_hasArrival : GoodIn wsX4_pass wsX4_hasArrival := goodIn_r _ [17, 3, 1, 18, 72, 73, 74, 75, 76, 77, 78, 79, 80, 81, 82, 83, 84, 85, 86, 87, 88, 89, 90] (by decide +kernel) (by decide +kernel)
set_option maxRecDepth 20000 in
theorem gX4_pass_X4_hasArrival : GoodIn wsX4_pass (wsV RX4 62 RX4 yX4_hasArrival wsX4_hasArrival) := goodIn_app (goodIn_of _ (by decide +kernel)) ggX4_pass_X4_hasArrival
set_option maxRecDepth 20000 in
theorem ggX4_pass_X4_receive : GoodIn wsX4_pass wsX4_receive := goodIn_r _ [22, 1, 23, 24, 25, 26, 27, 28, 29, 12, 30, 31, 32, 33, 34, 35, 36, 37, 38, 39, 10, 40, 72, 73, 74, 75, 76, 77, 78, 79, 80, 81, 82, 83, 84, 85, 86, 87, 88, 89, 90] (by decide +kernel) (by decide +kernel)
set_option maxRecDepth 20000 in
theorem gX4_pass_X4_receive : GoodIn wsX4_pass (wsV RX4 87 RX4 yX4_receive wsX4_receive) := goodIn_app (goodIn_of _ (by decide +kernel)) ggX4_pass_X4_receive
set_option maxRecDepth 20000 in
theorem ggX4_pass_X4_seek : GoodIn wsX4_pass wsX4_seek := goodIn_r _ [44, 3, 1, 18, 2, 45, 46, 6, 47, 48, 49, 50, 33, 51, 52, 53, 54, 55, 56, 57, 58, 72, 73, 74, 75, 76, 77, 78, 79, 80, 81, 82, 83, 84, 85, 86, 87, 88, 89, 90] (by decide +kernel) (by decide +kernel)
set_option maxRecDepth 20000 in
theorem gX4_pass_X4_seek : GoodIn wsX4_pass (wsV RX4 44 RX4 yX4_seek wsX4_seek) := goodIn_app (goodIn_of _ (by decide +kernel)) ggX4_pass_X4_seek
set_option maxRecDepth 20000 in
theorem ggX4_pass_X4_hasSent : GoodIn wsX4_pass wsX4_hasSent := goodIn_r _ [62, 6, 1, 47, 72, 73, 74, 75, 76, 77, 78, 79, 80, 81, 82, 83, 84, 85, 86, 87, 88, 89, 90] (by decide +kernel) (by decide +kernel)
set_option maxRecDepth 20000 in
theorem gX4_pass_X4_hasSent : GoodIn wsX4_pass (wsV RX4 75 RX4 yX4_hasSent wsX4_hasSent) := goodIn_app (goodIn_of _ (by decide +kernel)) ggX4_pass_X4_hasSent
set_option maxRecDepth 20000 in
theorem ggX4_pass_X4_say : GoodIn wsX4_pass wsX4_say := goodIn_r _ [66, 1, 23, 12, 25, 67, 68, 69, 70, 10, 71, 13, 30, 31, 32, 33, 34, 35, 36, 37, 38, 39, 40, 72, 73, 74, 75, 76, 77, 78, 79, 80, 81, 82, 83, 84, 85, 86, 87, 88, 89, 90] (by decide +kernel) (by decide +kernel)
set_option maxRecDepth 20000 in
theorem gX4_pass_X4_say : GoodIn wsX4_pass (wsV RX4 90 RX4 yX4_say wsX4_say) := goodIn_app (goodIn_of _ (by decide +kernel)) ggX4_pass_X4_say
theorem dX4_pass_0 : decode cX4_pass 0 = .ok (.aload_n 0, 1) := by decide +kernel
theorem dX4_pass_1 : decode cX4_pass 1 = .ok (.iload_n 1, 1) := by decide +kernel
theorem dX4_pass_2 : decode cX4_pass 2 = .ok (.invokevirtual 59, 3) := by decide +kernel
theorem dX4_pass_5 : decode cX4_pass 5 = .ok (.iconst 0, 1) := by decide +kernel
theorem dX4_pass_6 : decode cX4_pass 6 = .ok (.istore_n 2, 1) := by decide +kernel
theorem dX4_pass_7 : decode cX4_pass 7 = .ok (.iload_n 2, 1) := by decide +kernel
theorem dX4_pass_8 : decode cX4_pass 8 = .ok (.bipush 80, 2) := by decide +kernel
theorem dX4_pass_10 : decode cX4_pass 10 = .ok (.if_icmp .ge 64, 3) := by decide +kernel
theorem dX4_pass_13 : decode cX4_pass 13 = .ok (.aload_n 0, 1) := by decide +kernel
theorem dX4_pass_14 : decode cX4_pass 14 = .ok (.invokevirtual 62, 3) := by decide +kernel
theorem dX4_pass_17 : decode cX4_pass 17 = .ok (.ifCond .eq 57, 3) := by decide +kernel
theorem dX4_pass_20 : decode cX4_pass 20 = .ok (.aload_n 0, 1) := by decide +kernel
theorem dX4_pass_21 : decode cX4_pass 21 = .ok (.getfield 9, 3) := by decide +kernel
theorem dX4_pass_24 : decode cX4_pass 24 = .ok (.getfield 71, 3) := by decide +kernel
theorem dX4_pass_27 : decode cX4_pass 27 = .ok (.aload_n 0, 1) := by decide +kernel
theorem dX4_pass_28 : decode cX4_pass 28 = .ok (.getfield 32, 3) := by decide +kernel
theorem dX4_pass_31 : decode cX4_pass 31 = .ok (.iaload, 1) := by decide +kernel
theorem dX4_pass_32 : decode cX4_pass 32 = .ok (.istore_n 3, 1) := by decide +kernel
theorem dX4_pass_33 : decode cX4_pass 33 = .ok (.aload_n 0, 1) := by decide +kernel
theorem dX4_pass_34 : decode cX4_pass 34 = .ok (.getfield 9, 3) := by decide +kernel
theorem dX4_pass_37 : decode cX4_pass 37 = .ok (.getfield 66, 3) := by decide +kernel
theorem dX4_pass_40 : decode cX4_pass 40 = .ok (.iload_n 3, 1) := by decide +kernel
theorem dX4_pass_41 : decode cX4_pass 41 = .ok (.iaload, 1) := by decide +kernel
theorem dX4_pass_42 : decode cX4_pass 42 = .ok (.iload_n 1, 1) := by decide +kernel
theorem dX4_pass_43 : decode cX4_pass 43 = .ok (.if_icmp .le 6, 3) := by decide +kernel
theorem dX4_pass_46 : decode cX4_pass 46 = .ok (.goto 28, 3) := by decide +kernel
theorem dX4_pass_49 : decode cX4_pass 49 = .ok (.aload_n 0, 1) := by decide +kernel
theorem dX4_pass_50 : decode cX4_pass 50 = .ok (.iload_n 3, 1) := by decide +kernel
theorem dX4_pass_51 : decode cX4_pass 51 = .ok (.invokevirtual 87, 3) := by decide +kernel
theorem dX4_pass_54 : decode cX4_pass 54 = .ok (.aload_n 0, 1) := by decide +kernel
theorem dX4_pass_55 : decode cX4_pass 55 = .ok (.dup, 1) := by decide +kernel
theorem dX4_pass_56 : decode cX4_pass 56 = .ok (.getfield 32, 3) := by decide +kernel
theorem dX4_pass_59 : decode cX4_pass 59 = .ok (.iconst 1, 1) := by decide +kernel
theorem dX4_pass_60 : decode cX4_pass 60 = .ok (.iadd, 1) := by decide +kernel
theorem dX4_pass_61 : decode cX4_pass 61 = .ok (.putfield 32, 3) := by decide +kernel
theorem dX4_pass_64 : decode cX4_pass 64 = .ok (.aload_n 0, 1) := by decide +kernel
theorem dX4_pass_65 : decode cX4_pass 65 = .ok (.invokevirtual 44, 3) := by decide +kernel
theorem dX4_pass_68 : decode cX4_pass 68 = .ok (.iinc 2 1, 3) := by decide +kernel
theorem dX4_pass_71 : decode cX4_pass 71 = .ok (.goto (-64), 3) := by decide +kernel
theorem dX4_pass_74 : decode cX4_pass 74 = .ok (.iconst 0, 1) := by decide +kernel
theorem dX4_pass_75 : decode cX4_pass 75 = .ok (.istore_n 2, 1) := by decide +kernel
theorem dX4_pass_76 : decode cX4_pass 76 = .ok (.iload_n 2, 1) := by decide +kernel
theorem dX4_pass_77 : decode cX4_pass 77 = .ok (.bipush 80, 2) := by decide +kernel
theorem dX4_pass_79 : decode cX4_pass 79 = .ok (.if_icmp .ge 58, 3) := by decide +kernel
theorem dX4_pass_82 : decode cX4_pass 82 = .ok (.aload_n 0, 1) := by decide +kernel
theorem dX4_pass_83 : decode cX4_pass 83 = .ok (.invokevirtual 75, 3) := by decide +kernel
theorem dX4_pass_86 : decode cX4_pass 86 = .ok (.ifCond .eq 51, 3) := by decide +kernel
theorem dX4_pass_89 : decode cX4_pass 89 = .ok (.aload_n 0, 1) := by decide +kernel
theorem dX4_pass_90 : decode cX4_pass 90 = .ok (.getfield 9, 3) := by decide +kernel
theorem dX4_pass_93 : decode cX4_pass 93 = .ok (.getfield 78, 3) := by decide +kernel
theorem dX4_pass_96 : decode cX4_pass 96 = .ok (.aload_n 0, 1) := by decide +kernel
theorem dX4_pass_97 : decode cX4_pass 97 = .ok (.getfield 35, 3) := by decide +kernel
theorem dX4_pass_100 : decode cX4_pass 100 = .ok (.iaload, 1) := by decide +kernel
theorem dX4_pass_101 : decode cX4_pass 101 = .ok (.iload_n 1, 1) := by decide +kernel
theorem dX4_pass_102 : decode cX4_pass 102 = .ok (.if_icmp .le 6, 3) := by decide +kernel
theorem dX4_pass_105 : decode cX4_pass 105 = .ok (.goto 32, 3) := by decide +kernel
theorem dX4_pass_108 : decode cX4_pass 108 = .ok (.aload_n 0, 1) := by decide +kernel
theorem dX4_pass_109 : decode cX4_pass 109 = .ok (.aload_n 0, 1) := by decide +kernel
theorem dX4_pass_110 : decode cX4_pass 110 = .ok (.getfield 35, 3) := by decide +kernel
theorem dX4_pass_113 : decode cX4_pass 113 = .ok (.iload_n 1, 1) := by decide +kernel
theorem dX4_pass_114 : decode cX4_pass 114 = .ok (.invokevirtual 90, 3) := by decide +kernel
theorem dX4_pass_117 : decode cX4_pass 117 = .ok (.aload_n 0, 1) := by decide +kernel
theorem dX4_pass_118 : decode cX4_pass 118 = .ok (.dup, 1) := by decide +kernel
theorem dX4_pass_119 : decode cX4_pass 119 = .ok (.getfield 35, 3) := by decide +kernel
theorem dX4_pass_122 : decode cX4_pass 122 = .ok (.iconst 1, 1) := by decide +kernel
theorem dX4_pass_123 : decode cX4_pass 123 = .ok (.iadd, 1) := by decide +kernel
theorem dX4_pass_124 : decode cX4_pass 124 = .ok (.putfield 35, 3) := by decide +kernel
theorem dX4_pass_127 : decode cX4_pass 127 = .ok (.aload_n 0, 1) := by decide +kernel
theorem dX4_pass_128 : decode cX4_pass 128 = .ok (.invokevirtual 44, 3) := by decide +kernel
theorem dX4_pass_131 : decode cX4_pass 131 = .ok (.iinc 2 1, 3) := by decide +kernel
theorem dX4_pass_134 : decode cX4_pass 134 = .ok (.goto (-58), 3) := by decide +kernel
theorem dX4_pass_137 : decode cX4_pass 137 = .ok (.return_, 1) := by decide +kernel
theorem dX4_hasArrival_0 : decode cX4_hasArrival 0 = .ok (.aload_n 0, 1) := by decide +kernel
theorem dX4_hasArrival_1 : decode cX4_hasArrival 1 = .ok (.getfield 32, 3) := by decide +kernel
theorem dX4_hasArrival_4 : decode cX4_hasArrival 4 = .ok (.aload_n 0, 1) := by decide +kernel
theorem dX4_hasArrival_5 : decode cX4_hasArrival 5 = .ok (.getfield 9, 3) := by decide +kernel
theorem dX4_hasArrival_8 : decode cX4_hasArrival 8 = .ok (.getfield 93, 3) := by decide +kernel
theorem dX4_hasArrival_11 : decode cX4_hasArrival 11 = .ok (.if_icmp .ge 7, 3) := by decide +kernel
theorem dX4_hasArrival_14 : decode cX4_hasArrival 14 = .ok (.iconst 1, 1) := by decide +kernel
theorem dX4_hasArrival_15 : decode cX4_hasArrival 15 = .ok (.goto 4, 3) := by decide +kernel
theorem dX4_hasArrival_18 : decode cX4_hasArrival 18 = .ok (.iconst 0, 1) := by decide +kernel
theorem dX4_hasArrival_19 : decode cX4_hasArrival 19 = .ok (.ireturn, 1) := by decide +kernel
theorem dX4_hasSent_0 : decode cX4_hasSent 0 = .ok (.aload_n 0, 1) := by decide +kernel
theorem dX4_hasSent_1 : decode cX4_hasSent 1 = .ok (.getfield 35, 3) := by decide +kernel
theorem dX4_hasSent_4 : decode cX4_hasSent 4 = .ok (.aload_n 0, 1) := by decide +kernel
theorem dX4_hasSent_5 : decode cX4_hasSent 5 = .ok (.getfield 9, 3) := by decide +kernel
theorem dX4_hasSent_8 : decode cX4_hasSent 8 = .ok (.getfield 96, 3) := by decide +kernel
theorem dX4_hasSent_11 : decode cX4_hasSent 11 = .ok (.if_icmp .ge 7, 3) := by decide +kernel
theorem dX4_hasSent_14 : decode cX4_hasSent 14 = .ok (.iconst 1, 1) := by decide +kernel
theorem dX4_hasSent_15 : decode cX4_hasSent 15 = .ok (.goto 4, 3) := by decide +kernel
theorem dX4_hasSent_18 : decode cX4_hasSent 18 = .ok (.iconst 0, 1) := by decide +kernel
theorem dX4_hasSent_19 : decode cX4_hasSent 19 = .ok (.ireturn, 1) := by decide +kernel
set_option maxRecDepth 20000 in
theorem ggX4_seek_X0_isFor : GoodIn wsX4_seek wsX0_isFor := goodIn_r _ [13, 14, 15, 29, 30, 31, 32, 33, 34, 35, 36, 37, 38, 39] (by decide +kernel) (by decide +kernel)
set_option maxRecDepth 20000 in
theorem gX4_seek_X0_isFor : GoodIn wsX4_seek (wsV RX4 99 RX0 yX0_isFor wsX0_isFor) := goodIn_app (goodIn_of _ (by decide +kernel)) ggX4_seek_X0_isFor
set_option maxRecDepth 20000 in
theorem ggX4_seek_X0_isBy : GoodIn wsX4_seek wsX0_isBy := goodIn_r _ [19, 20, 15, 29, 30, 31, 32, 33, 34, 35, 36, 37, 38, 39] (by decide +kernel) (by decide +kernel)
set_option maxRecDepth 20000 in
theorem gX4_seek_X0_isBy : GoodIn wsX4_seek (wsV RX4 103 RX0 yX0_isBy wsX0_isBy) := goodIn_app (goodIn_of _ (by decide +kernel)) ggX4_seek_X0_isBy
theorem dX4_seek_0 : decode cX4_seek 0 = .ok (.aload_n 0, 1) := by decide +kernel
theorem dX4_seek_1 : decode cX4_seek 1 = .ok (.getfield 32, 3) := by decide +kernel
theorem dX4_seek_4 : decode cX4_seek 4 = .ok (.aload_n 0, 1) := by decide +kernel
theorem dX4_seek_5 : decode cX4_seek 5 = .ok (.getfield 9, 3) := by decide +kernel
theorem dX4_seek_8 : decode cX4_seek 8 = .ok (.getfield 93, 3) := by decide +kernel
theorem dX4_seek_11 : decode cX4_seek 11 = .ok (.if_icmp .ge 46, 3) := by decide +kernel
theorem dX4_seek_14 : decode cX4_seek 14 = .ok (.aload_n 0, 1) := by decide +kernel
theorem dX4_seek_15 : decode cX4_seek 15 = .ok (.getfield 9, 3) := by decide +kernel
theorem dX4_seek_18 : decode cX4_seek 18 = .ok (.aload_n 0, 1) := by decide +kernel
theorem dX4_seek_19 : decode cX4_seek 19 = .ok (.getfield 9, 3) := by decide +kernel
theorem dX4_seek_22 : decode cX4_seek 22 = .ok (.getfield 71, 3) := by decide +kernel
theorem dX4_seek_25 : decode cX4_seek 25 = .ok (.aload_n 0, 1) := by decide +kernel
theorem dX4_seek_26 : decode cX4_seek 26 = .ok (.getfield 32, 3) := by decide +kernel
theorem dX4_seek_29 : decode cX4_seek 29 = .ok (.iaload, 1) := by decide +kernel
theorem dX4_seek_30 : decode cX4_seek 30 = .ok (.aload_n 0, 1) := by decide +kernel
theorem dX4_seek_31 : decode cX4_seek 31 = .ok (.getfield 19, 3) := by decide +kernel
theorem dX4_seek_34 : decode cX4_seek 34 = .ok (.aload_n 0, 1) := by decide +kernel
theorem dX4_seek_35 : decode cX4_seek 35 = .ok (.getfield 23, 3) := by decide +kernel
theorem dX4_seek_38 : decode cX4_seek 38 = .ok (.invokevirtual 99, 3) := by decide +kernel
theorem dX4_seek_41 : decode cX4_seek 41 = .ok (.ifCond .ne 16, 3) := by decide +kernel
theorem dX4_seek_44 : decode cX4_seek 44 = .ok (.aload_n 0, 1) := by decide +kernel
theorem dX4_seek_45 : decode cX4_seek 45 = .ok (.dup, 1) := by decide +kernel
theorem dX4_seek_46 : decode cX4_seek 46 = .ok (.getfield 32, 3) := by decide +kernel
theorem dX4_seek_49 : decode cX4_seek 49 = .ok (.iconst 1, 1) := by decide +kernel
theorem dX4_seek_50 : decode cX4_seek 50 = .ok (.iadd, 1) := by decide +kernel
theorem dX4_seek_51 : decode cX4_seek 51 = .ok (.putfield 32, 3) := by decide +kernel
theorem dX4_seek_54 : decode cX4_seek 54 = .ok (.goto (-54), 3) := by decide +kernel
theorem dX4_seek_57 : decode cX4_seek 57 = .ok (.aload_n 0, 1) := by decide +kernel
theorem dX4_seek_58 : decode cX4_seek 58 = .ok (.getfield 35, 3) := by decide +kernel
theorem dX4_seek_61 : decode cX4_seek 61 = .ok (.aload_n 0, 1) := by decide +kernel
theorem dX4_seek_62 : decode cX4_seek 62 = .ok (.getfield 9, 3) := by decide +kernel
theorem dX4_seek_65 : decode cX4_seek 65 = .ok (.getfield 96, 3) := by decide +kernel
theorem dX4_seek_68 : decode cX4_seek 68 = .ok (.if_icmp .ge 38, 3) := by decide +kernel
theorem dX4_seek_71 : decode cX4_seek 71 = .ok (.aload_n 0, 1) := by decide +kernel
theorem dX4_seek_72 : decode cX4_seek 72 = .ok (.getfield 9, 3) := by decide +kernel
theorem dX4_seek_75 : decode cX4_seek 75 = .ok (.aload_n 0, 1) := by decide +kernel
theorem dX4_seek_76 : decode cX4_seek 76 = .ok (.getfield 35, 3) := by decide +kernel
theorem dX4_seek_79 : decode cX4_seek 79 = .ok (.aload_n 0, 1) := by decide +kernel
theorem dX4_seek_80 : decode cX4_seek 80 = .ok (.getfield 19, 3) := by decide +kernel
theorem dX4_seek_83 : decode cX4_seek 83 = .ok (.aload_n 0, 1) := by decide +kernel
theorem dX4_seek_84 : decode cX4_seek 84 = .ok (.getfield 23, 3) := by decide +kernel
theorem dX4_seek_87 : decode cX4_seek 87 = .ok (.invokevirtual 103, 3) := by decide +kernel
theorem dX4_seek_90 : decode cX4_seek 90 = .ok (.ifCond .ne 16, 3) := by decide +kernel
theorem dX4_seek_93 : decode cX4_seek 93 = .ok (.aload_n 0, 1) := by decide +kernel
theorem dX4_seek_94 : decode cX4_seek 94 = .ok (.dup, 1) := by decide +kernel
theorem dX4_seek_95 : decode cX4_seek 95 = .ok (.getfield 35, 3) := by decide +kernel
theorem dX4_seek_98 : decode cX4_seek 98 = .ok (.iconst 1, 1) := by decide +kernel
theorem dX4_seek_99 : decode cX4_seek 99 = .ok (.iadd, 1) := by decide +kernel
theorem dX4_seek_100 : decode cX4_seek 100 = .ok (.putfield 35, 3) := by decide +kernel
theorem dX4_seek_103 : decode cX4_seek 103 = .ok (.goto (-46), 3) := by decide +kernel
theorem dX4_seek_106 : decode cX4_seek 106 = .ok (.return_, 1) := by decide +kernel
theorem dX4_endOver_0 : decode cX4_endOver 0 = .ok (.aload_n 0, 1) := by decide +kernel
theorem dX4_endOver_1 : decode cX4_endOver 1 = .ok (.getfield 26, 3) := by decide +kernel
theorem dX4_endOver_4 : decode cX4_endOver 4 = .ok (.iconst 1, 1) := by decide +kernel
theorem dX4_endOver_5 : decode cX4_endOver 5 = .ok (.if_icmp .ne 16, 3) := by decide +kernel
theorem dX4_endOver_8 : decode cX4_endOver 8 = .ok (.iload_n 1, 1) := by decide +kernel
theorem dX4_endOver_9 : decode cX4_endOver 9 = .ok (.aload_n 0, 1) := by decide +kernel
theorem dX4_endOver_10 : decode cX4_endOver 10 = .ok (.getfield 29, 3) := by decide +kernel
theorem dX4_endOver_13 : decode cX4_endOver 13 = .ok (.if_icmp .le 8, 3) := by decide +kernel
theorem dX4_endOver_16 : decode cX4_endOver 16 = .ok (.aload_n 0, 1) := by decide +kernel
theorem dX4_endOver_17 : decode cX4_endOver 17 = .ok (.iconst 0, 1) := by decide +kernel
theorem dX4_endOver_18 : decode cX4_endOver 18 = .ok (.putfield 26, 3) := by decide +kernel
theorem dX4_endOver_21 : decode cX4_endOver 21 = .ok (.return_, 1) := by decide +kernel
set_option maxRecDepth 20000 in
theorem ggX4_receive_X0_lastYear : GoodIn wsX4_receive wsX0_lastYear := goodIn_r _ [14, 15, 16, 30, 31, 32, 33, 34, 35, 36, 37, 38, 39, 40] (by decide +kernel) (by decide +kernel)
set_option maxRecDepth 20000 in
theorem gX4_receive_X0_lastYear : GoodIn wsX4_receive (wsV RX4 112 RX0 yX0_lastYear wsX0_lastYear) := goodIn_app (goodIn_of _ (by decide +kernel)) ggX4_receive_X0_lastYear
set_option maxRecDepth 20000 in
theorem ggX4_receive_X4_giveUp : GoodIn wsX4_receive wsX4_giveUp := goodIn_r _ [21, 9, 22, 23, 24, 25, 26, 27, 28, 29] (by decide +kernel) (by decide +kernel)
set_option maxRecDepth 20000 in
theorem gX4_receive_X4_giveUp : GoodIn wsX4_receive (wsV RX4 119 RX4 yX4_giveUp wsX4_giveUp) := goodIn_app (goodIn_of _ (by decide +kernel)) ggX4_receive_X4_giveUp
theorem dX4_receive_0 : decode cX4_receive 0 = .ok (.aload_n 0, 1) := by decide +kernel
theorem dX4_receive_1 : decode cX4_receive 1 = .ok (.getfield 9, 3) := by decide +kernel
theorem dX4_receive_4 : decode cX4_receive 4 = .ok (.getfield 106, 3) := by decide +kernel
theorem dX4_receive_7 : decode cX4_receive 7 = .ok (.iload_n 1, 1) := by decide +kernel
theorem dX4_receive_8 : decode cX4_receive 8 = .ok (.iaload, 1) := by decide +kernel
theorem dX4_receive_9 : decode cX4_receive 9 = .ok (.istore_n 2, 1) := by decide +kernel
theorem dX4_receive_10 : decode cX4_receive 10 = .ok (.iload_n 2, 1) := by decide +kernel
theorem dX4_receive_11 : decode cX4_receive 11 = .ok (.iconst 1, 1) := by decide +kernel
theorem dX4_receive_12 : decode cX4_receive 12 = .ok (.if_icmp .eq 8, 3) := by decide +kernel
theorem dX4_receive_15 : decode cX4_receive 15 = .ok (.iload_n 2, 1) := by decide +kernel
theorem dX4_receive_16 : decode cX4_receive 16 = .ok (.iconst 2, 1) := by decide +kernel
theorem dX4_receive_17 : decode cX4_receive 17 = .ok (.if_icmp .ne 36, 3) := by decide +kernel
theorem dX4_receive_20 : decode cX4_receive 20 = .ok (.aload_n 0, 1) := by decide +kernel
theorem dX4_receive_21 : decode cX4_receive 21 = .ok (.getfield 9, 3) := by decide +kernel
theorem dX4_receive_24 : decode cX4_receive 24 = .ok (.getfield 109, 3) := by decide +kernel
theorem dX4_receive_27 : decode cX4_receive 27 = .ok (.iload_n 1, 1) := by decide +kernel
theorem dX4_receive_28 : decode cX4_receive 28 = .ok (.iaload, 1) := by decide +kernel
theorem dX4_receive_29 : decode cX4_receive 29 = .ok (.istore_n 3, 1) := by decide +kernel
theorem dX4_receive_30 : decode cX4_receive 30 = .ok (.aload_n 0, 1) := by decide +kernel
theorem dX4_receive_31 : decode cX4_receive 31 = .ok (.getfield 15, 3) := by decide +kernel
theorem dX4_receive_34 : decode cX4_receive 34 = .ok (.iload_n 3, 1) := by decide +kernel
theorem dX4_receive_35 : decode cX4_receive 35 = .ok (.aload_n 0, 1) := by decide +kernel
theorem dX4_receive_36 : decode cX4_receive 36 = .ok (.getfield 15, 3) := by decide +kernel
theorem dX4_receive_39 : decode cX4_receive 39 = .ok (.iload_n 3, 1) := by decide +kernel
theorem dX4_receive_40 : decode cX4_receive 40 = .ok (.iaload, 1) := by decide +kernel
theorem dX4_receive_41 : decode cX4_receive 41 = .ok (.aload_n 0, 1) := by decide +kernel
theorem dX4_receive_42 : decode cX4_receive 42 = .ok (.getfield 9, 3) := by decide +kernel
theorem dX4_receive_45 : decode cX4_receive 45 = .ok (.iload_n 1, 1) := by decide +kernel
theorem dX4_receive_46 : decode cX4_receive 46 = .ok (.invokevirtual 112, 3) := by decide +kernel
theorem dX4_receive_49 : decode cX4_receive 49 = .ok (.invokestatic 116, 3) := by decide +kernel
theorem dX4_receive_52 : decode cX4_receive 52 = .ok (.iastore, 1) := by decide +kernel
theorem dX4_receive_53 : decode cX4_receive 53 = .ok (.iload_n 2, 1) := by decide +kernel
theorem dX4_receive_54 : decode cX4_receive 54 = .ok (.iconst 2, 1) := by decide +kernel
theorem dX4_receive_55 : decode cX4_receive 55 = .ok (.if_icmp .ne 16, 3) := by decide +kernel
theorem dX4_receive_58 : decode cX4_receive 58 = .ok (.aload_n 0, 1) := by decide +kernel
theorem dX4_receive_59 : decode cX4_receive 59 = .ok (.getfield 26, 3) := by decide +kernel
theorem dX4_receive_62 : decode cX4_receive 62 = .ok (.iconst 1, 1) := by decide +kernel
theorem dX4_receive_63 : decode cX4_receive 63 = .ok (.if_icmp .ne 8, 3) := by decide +kernel
theorem dX4_receive_66 : decode cX4_receive 66 = .ok (.aload_n 0, 1) := by decide +kernel
theorem dX4_receive_67 : decode cX4_receive 67 = .ok (.iconst 2, 1) := by decide +kernel
theorem dX4_receive_68 : decode cX4_receive 68 = .ok (.putfield 26, 3) := by decide +kernel
theorem dX4_receive_71 : decode cX4_receive 71 = .ok (.iload_n 2, 1) := by decide +kernel
theorem dX4_receive_72 : decode cX4_receive 72 = .ok (.iconst 4, 1) := by decide +kernel
theorem dX4_receive_73 : decode cX4_receive 73 = .ok (.if_icmp .ne 7, 3) := by decide +kernel
theorem dX4_receive_76 : decode cX4_receive 76 = .ok (.aload_n 0, 1) := by decide +kernel
theorem dX4_receive_77 : decode cX4_receive 77 = .ok (.invokevirtual 119, 3) := by decide +kernel
theorem dX4_receive_80 : decode cX4_receive 80 = .ok (.return_, 1) := by decide +kernel
set_option maxRecDepth 20000 in
theorem ggX4_say_X4_propose : GoodIn wsX4_say wsX4_propose := goodIn_r _ [10, 3, 1, 11, 12, 13, 14, 15, 16, 17, 18, 23, 24, 25, 26, 27, 28, 29, 30, 31, 32, 33, 34, 35, 36, 37, 38, 39, 40, 41] (by decide +kernel) (by decide +kernel)
set_option maxRecDepth 20000 in
theorem gX4_say_X4_propose : GoodIn wsX4_say (wsV RX4 122 RX4 yX4_propose wsX4_propose) := goodIn_app (goodIn_of _ (by decide +kernel)) ggX4_say_X4_propose
set_option maxRecDepth 20000 in
theorem ggX4_say_X4_giveUp : GoodIn wsX4_say wsX4_giveUp := goodIn_r _ [22, 3, 23, 24, 25, 26, 27, 28, 29, 30] (by decide +kernel) (by decide +kernel)
set_option maxRecDepth 20000 in
theorem gX4_say_X4_giveUp : GoodIn wsX4_say (wsV RX4 119 RX4 yX4_giveUp wsX4_giveUp) := goodIn_app (goodIn_of _ (by decide +kernel)) ggX4_say_X4_giveUp
theorem dX4_say_0 : decode cX4_say 0 = .ok (.aload_n 0, 1) := by decide +kernel
theorem dX4_say_1 : decode cX4_say 1 = .ok (.getfield 9, 3) := by decide +kernel
theorem dX4_say_4 : decode cX4_say 4 = .ok (.getfield 106, 3) := by decide +kernel
theorem dX4_say_7 : decode cX4_say 7 = .ok (.iload_n 1, 1) := by decide +kernel
theorem dX4_say_8 : decode cX4_say 8 = .ok (.iaload, 1) := by decide +kernel
theorem dX4_say_9 : decode cX4_say 9 = .ok (.tableswitch 116 1 5 #[35, 43, 85, 101, 108], 35) := by decide +kernel
theorem dX4_say_44 : decode cX4_say 44 = .ok (.aload_n 0, 1) := by decide +kernel
theorem dX4_say_45 : decode cX4_say 45 = .ok (.iload_n 1, 1) := by decide +kernel
theorem dX4_say_46 : decode cX4_say 46 = .ok (.invokevirtual 122, 3) := by decide +kernel
theorem dX4_say_49 : decode cX4_say 49 = .ok (.goto 76, 3) := by decide +kernel
theorem dX4_say_52 : decode cX4_say 52 = .ok (.aload_n 0, 1) := by decide +kernel
theorem dX4_say_53 : decode cX4_say 53 = .ok (.getfield 26, 3) := by decide +kernel
theorem dX4_say_56 : decode cX4_say 56 = .ok (.iconst 1, 1) := by decide +kernel
theorem dX4_say_57 : decode cX4_say 57 = .ok (.if_icmp .gt 29, 3) := by decide +kernel
theorem dX4_say_60 : decode cX4_say 60 = .ok (.aload_n 0, 1) := by decide +kernel
theorem dX4_say_61 : decode cX4_say 61 = .ok (.getfield 15, 3) := by decide +kernel
theorem dX4_say_64 : decode cX4_say 64 = .ok (.aload_n 0, 1) := by decide +kernel
theorem dX4_say_65 : decode cX4_say 65 = .ok (.getfield 9, 3) := by decide +kernel
theorem dX4_say_68 : decode cX4_say 68 = .ok (.getfield 125, 3) := by decide +kernel
theorem dX4_say_71 : decode cX4_say 71 = .ok (.iload_n 1, 1) := by decide +kernel
theorem dX4_say_72 : decode cX4_say 72 = .ok (.iaload, 1) := by decide +kernel
theorem dX4_say_73 : decode cX4_say 73 = .ok (.iaload, 1) := by decide +kernel
theorem dX4_say_74 : decode cX4_say 74 = .ok (.iload_n 2, 1) := by decide +kernel
theorem dX4_say_75 : decode cX4_say 75 = .ok (.if_icmp .lt 11, 3) := by decide +kernel
theorem dX4_say_78 : decode cX4_say 78 = .ok (.aload_n 0, 1) := by decide +kernel
theorem dX4_say_79 : decode cX4_say 79 = .ok (.iconst 2, 1) := by decide +kernel
theorem dX4_say_80 : decode cX4_say 80 = .ok (.putfield 26, 3) := by decide +kernel
theorem dX4_say_83 : decode cX4_say 83 = .ok (.goto 42, 3) := by decide +kernel
theorem dX4_say_86 : decode cX4_say 86 = .ok (.aload_n 0, 1) := by decide +kernel
theorem dX4_say_87 : decode cX4_say 87 = .ok (.iload_n 1, 1) := by decide +kernel
theorem dX4_say_88 : decode cX4_say 88 = .ok (.invokevirtual 122, 3) := by decide +kernel
theorem dX4_say_91 : decode cX4_say 91 = .ok (.goto 34, 3) := by decide +kernel
theorem dX4_say_94 : decode cX4_say 94 = .ok (.aload_n 0, 1) := by decide +kernel
theorem dX4_say_95 : decode cX4_say 95 = .ok (.getfield 26, 3) := by decide +kernel
theorem dX4_say_98 : decode cX4_say 98 = .ok (.iconst 2, 1) := by decide +kernel
theorem dX4_say_99 : decode cX4_say 99 = .ok (.if_icmp .ne 26, 3) := by decide +kernel
theorem dX4_say_102 : decode cX4_say 102 = .ok (.aload_n 0, 1) := by decide +kernel
theorem dX4_say_103 : decode cX4_say 103 = .ok (.iconst 3, 1) := by decide +kernel
theorem dX4_say_104 : decode cX4_say 104 = .ok (.putfield 26, 3) := by decide +kernel
theorem dX4_say_107 : decode cX4_say 107 = .ok (.goto 18, 3) := by decide +kernel
theorem dX4_say_110 : decode cX4_say 110 = .ok (.aload_n 0, 1) := by decide +kernel
theorem dX4_say_111 : decode cX4_say 111 = .ok (.invokevirtual 119, 3) := by decide +kernel
theorem dX4_say_114 : decode cX4_say 114 = .ok (.goto 11, 3) := by decide +kernel
theorem dX4_say_117 : decode cX4_say 117 = .ok (.aload_n 0, 1) := by decide +kernel
theorem dX4_say_118 : decode cX4_say 118 = .ok (.iconst 3, 1) := by decide +kernel
theorem dX4_say_119 : decode cX4_say 119 = .ok (.putfield 26, 3) := by decide +kernel
theorem dX4_say_122 : decode cX4_say 122 = .ok (.goto 3, 3) := by decide +kernel
theorem dX4_say_125 : decode cX4_say 125 = .ok (.return_, 1) := by decide +kernel
set_option maxRecDepth 20000 in
theorem ggX4_propose_X0_lastYear : GoodIn wsX4_propose wsX0_lastYear := goodIn_r _ [8, 9, 10, 19, 20, 21, 22, 23, 24, 25, 26, 27, 28, 29] (by decide +kernel) (by decide +kernel)
set_option maxRecDepth 20000 in
theorem gX4_propose_X0_lastYear : GoodIn wsX4_propose (wsV RX4 112 RX0 yX0_lastYear wsX0_lastYear) := goodIn_app (goodIn_of _ (by decide +kernel)) ggX4_propose_X0_lastYear
theorem dX4_propose_0 : decode cX4_propose 0 = .ok (.aload_n 0, 1) := by decide +kernel
theorem dX4_propose_1 : decode cX4_propose 1 = .ok (.getfield 26, 3) := by decide +kernel
theorem dX4_propose_4 : decode cX4_propose 4 = .ok (.ifCond .ne 20, 3) := by decide +kernel
theorem dX4_propose_7 : decode cX4_propose 7 = .ok (.aload_n 0, 1) := by decide +kernel
theorem dX4_propose_8 : decode cX4_propose 8 = .ok (.iconst 1, 1) := by decide +kernel
theorem dX4_propose_9 : decode cX4_propose 9 = .ok (.putfield 26, 3) := by decide +kernel
theorem dX4_propose_12 : decode cX4_propose 12 = .ok (.aload_n 0, 1) := by decide +kernel
theorem dX4_propose_13 : decode cX4_propose 13 = .ok (.aload_n 0, 1) := by decide +kernel
theorem dX4_propose_14 : decode cX4_propose 14 = .ok (.getfield 9, 3) := by decide +kernel
theorem dX4_propose_17 : decode cX4_propose 17 = .ok (.iload_n 1, 1) := by decide +kernel
theorem dX4_propose_18 : decode cX4_propose 18 = .ok (.invokevirtual 112, 3) := by decide +kernel
theorem dX4_propose_21 : decode cX4_propose 21 = .ok (.putfield 29, 3) := by decide +kernel
theorem dX4_propose_24 : decode cX4_propose 24 = .ok (.return_, 1) := by decide +kernel
theorem dX4_giveUp_0 : decode cX4_giveUp 0 = .ok (.aload_n 0, 1) := by decide +kernel
theorem dX4_giveUp_1 : decode cX4_giveUp 1 = .ok (.getfield 26, 3) := by decide +kernel
theorem dX4_giveUp_4 : decode cX4_giveUp 4 = .ok (.iconst 1, 1) := by decide +kernel
theorem dX4_giveUp_5 : decode cX4_giveUp 5 = .ok (.if_icmp .eq 11, 3) := by decide +kernel
theorem dX4_giveUp_8 : decode cX4_giveUp 8 = .ok (.aload_n 0, 1) := by decide +kernel
theorem dX4_giveUp_9 : decode cX4_giveUp 9 = .ok (.getfield 26, 3) := by decide +kernel
theorem dX4_giveUp_12 : decode cX4_giveUp 12 = .ok (.iconst 2, 1) := by decide +kernel
theorem dX4_giveUp_13 : decode cX4_giveUp 13 = .ok (.if_icmp .ne 8, 3) := by decide +kernel
theorem dX4_giveUp_16 : decode cX4_giveUp 16 = .ok (.aload_n 0, 1) := by decide +kernel
theorem dX4_giveUp_17 : decode cX4_giveUp 17 = .ok (.iconst 0, 1) := by decide +kernel
theorem dX4_giveUp_18 : decode cX4_giveUp 18 = .ok (.putfield 26, 3) := by decide +kernel
theorem dX4_giveUp_21 : decode cX4_giveUp 21 = .ok (.return_, 1) := by decide +kernel
theorem dX5_init_0 : decode cX5_init 0 = .ok (.aload_n 0, 1) := by decide +kernel
theorem dX5_init_1 : decode cX5_init 1 = .ok (.invokespecial 3, 3) := by decide +kernel
theorem dX5_init_4 : decode cX5_init 4 = .ok (.aload_n 0, 1) := by decide +kernel
theorem dX5_init_5 : decode cX5_init 5 = .ok (.bipush 50, 2) := by decide +kernel
theorem dX5_init_7 : decode cX5_init 7 = .ok (.newarray .int, 2) := by decide +kernel
theorem dX5_init_9 : decode cX5_init 9 = .ok (.putfield 9, 3) := by decide +kernel
theorem dX5_init_12 : decode cX5_init 12 = .ok (.aload_n 0, 1) := by decide +kernel
theorem dX5_init_13 : decode cX5_init 13 = .ok (.iconst 0, 1) := by decide +kernel
theorem dX5_init_14 : decode cX5_init 14 = .ok (.putfield 15, 3) := by decide +kernel
theorem dX5_init_17 : decode cX5_init 17 = .ok (.return_, 1) := by decide +kernel
theorem dX5_become_0 : decode cX5_become 0 = .ok (.aload_n 1, 1) := by decide +kernel
theorem dX5_become_1 : decode cX5_become 1 = .ok (.iconst 0, 1) := by decide +kernel
theorem dX5_become_2 : decode cX5_become 2 = .ok (.aload_n 0, 1) := by decide +kernel
theorem dX5_become_3 : decode cX5_become 3 = .ok (.getfield 9, 3) := by decide +kernel
theorem dX5_become_6 : decode cX5_become 6 = .ok (.iconst 0, 1) := by decide +kernel
theorem dX5_become_7 : decode cX5_become 7 = .ok (.iload_n 2, 1) := by decide +kernel
theorem dX5_become_8 : decode cX5_become 8 = .ok (.invokestatic 19, 3) := by decide +kernel
theorem dX5_become_11 : decode cX5_become 11 = .ok (.aload_n 0, 1) := by decide +kernel
theorem dX5_become_12 : decode cX5_become 12 = .ok (.iload_n 2, 1) := by decide +kernel
theorem dX5_become_13 : decode cX5_become 13 = .ok (.putfield 15, 3) := by decide +kernel
theorem dX5_become_16 : decode cX5_become 16 = .ok (.return_, 1) := by decide +kernel
set_option maxRecDepth 20000 in
theorem ggX5_reckon_X5_valueOf : GoodIn wsX5_reckon wsX5_valueOf := goodIn_r _ [6] (by decide +kernel) (by decide +kernel)
set_option maxRecDepth 20000 in
theorem gX5_reckon_X5_valueOf : GoodIn wsX5_reckon (va_wsS RX5 25 yX5_valueOf wsX5_valueOf) := goodIn_app (goodIn_of _ (by decide +kernel)) ggX5_reckon_X5_valueOf
set_option maxRecDepth 20000 in
theorem ggX5_reckon_X5_join : GoodIn wsX5_reckon wsX5_join := goodIn_r _ [9] (by decide +kernel) (by decide +kernel)
set_option maxRecDepth 20000 in
theorem gX5_reckon_X5_join : GoodIn wsX5_reckon (va_wsS RX5 29 yX5_join wsX5_join) := goodIn_app (goodIn_of _ (by decide +kernel)) ggX5_reckon_X5_join
theorem dX5_reckon_0 : decode cX5_reckon 0 = .ok (.aload_n 2, 1) := by decide +kernel
theorem dX5_reckon_1 : decode cX5_reckon 1 = .ok (.iconst 0, 1) := by decide +kernel
theorem dX5_reckon_2 : decode cX5_reckon 2 = .ok (.iconst 0, 1) := by decide +kernel
theorem dX5_reckon_3 : decode cX5_reckon 3 = .ok (.iastore, 1) := by decide +kernel
theorem dX5_reckon_4 : decode cX5_reckon 4 = .ok (.iconst 0, 1) := by decide +kernel
theorem dX5_reckon_5 : decode cX5_reckon 5 = .ok (.istore_n 3, 1) := by decide +kernel
theorem dX5_reckon_6 : decode cX5_reckon 6 = .ok (.iconst 0, 1) := by decide +kernel
theorem dX5_reckon_7 : decode cX5_reckon 7 = .ok (.istore 4, 2) := by decide +kernel
theorem dX5_reckon_9 : decode cX5_reckon 9 = .ok (.iload 4, 2) := by decide +kernel
theorem dX5_reckon_11 : decode cX5_reckon 11 = .ok (.aload_n 0, 1) := by decide +kernel
theorem dX5_reckon_12 : decode cX5_reckon 12 = .ok (.getfield 15, 3) := by decide +kernel
theorem dX5_reckon_15 : decode cX5_reckon 15 = .ok (.if_icmp .ge 103, 3) := by decide +kernel
theorem dX5_reckon_18 : decode cX5_reckon 18 = .ok (.aload_n 0, 1) := by decide +kernel
theorem dX5_reckon_19 : decode cX5_reckon 19 = .ok (.getfield 9, 3) := by decide +kernel
theorem dX5_reckon_22 : decode cX5_reckon 22 = .ok (.iload 4, 2) := by decide +kernel
theorem dX5_reckon_24 : decode cX5_reckon 24 = .ok (.iaload, 1) := by decide +kernel
theorem dX5_reckon_25 : decode cX5_reckon 25 = .ok (.istore 5, 2) := by decide +kernel
theorem dX5_reckon_27 : decode cX5_reckon 27 = .ok (.iload 5, 2) := by decide +kernel
theorem dX5_reckon_29 : decode cX5_reckon 29 = .ok (.ifCond .lt 24, 3) := by decide +kernel
theorem dX5_reckon_32 : decode cX5_reckon 32 = .ok (.iload_n 3, 1) := by decide +kernel
theorem dX5_reckon_33 : decode cX5_reckon 33 = .ok (.aload_n 2, 1) := by decide +kernel
theorem dX5_reckon_34 : decode cX5_reckon 34 = .ok (.arraylength, 1) := by decide +kernel
theorem dX5_reckon_35 : decode cX5_reckon 35 = .ok (.if_icmp .ge 18, 3) := by decide +kernel
theorem dX5_reckon_38 : decode cX5_reckon 38 = .ok (.aload_n 2, 1) := by decide +kernel
theorem dX5_reckon_39 : decode cX5_reckon 39 = .ok (.iload_n 3, 1) := by decide +kernel
theorem dX5_reckon_40 : decode cX5_reckon 40 = .ok (.iload 5, 2) := by decide +kernel
theorem dX5_reckon_42 : decode cX5_reckon 42 = .ok (.aload_n 1, 1) := by decide +kernel
theorem dX5_reckon_43 : decode cX5_reckon 43 = .ok (.invokestatic 25, 3) := by decide +kernel
theorem dX5_reckon_46 : decode cX5_reckon 46 = .ok (.iastore, 1) := by decide +kernel
theorem dX5_reckon_47 : decode cX5_reckon 47 = .ok (.iinc 3 1, 3) := by decide +kernel
theorem dX5_reckon_50 : decode cX5_reckon 50 = .ok (.goto 62, 3) := by decide +kernel
theorem dX5_reckon_53 : decode cX5_reckon 53 = .ok (.iload 5, 2) := by decide +kernel
theorem dX5_reckon_55 : decode cX5_reckon 55 = .ok (.bipush (-33), 2) := by decide +kernel
theorem dX5_reckon_57 : decode cX5_reckon 57 = .ok (.if_icmp .ne 28, 3) := by decide +kernel
theorem dX5_reckon_60 : decode cX5_reckon 60 = .ok (.iload_n 3, 1) := by decide +kernel
theorem dX5_reckon_61 : decode cX5_reckon 61 = .ok (.ifCond .le 24, 3) := by decide +kernel
theorem dX5_reckon_64 : decode cX5_reckon 64 = .ok (.aload_n 2, 1) := by decide +kernel
theorem dX5_reckon_65 : decode cX5_reckon 65 = .ok (.iload_n 3, 1) := by decide +kernel
theorem dX5_reckon_66 : decode cX5_reckon 66 = .ok (.iconst 1, 1) := by decide +kernel
theorem dX5_reckon_67 : decode cX5_reckon 67 = .ok (.isub, 1) := by decide +kernel
theorem dX5_reckon_68 : decode cX5_reckon 68 = .ok (.aload_n 2, 1) := by decide +kernel
theorem dX5_reckon_69 : decode cX5_reckon 69 = .ok (.iload_n 3, 1) := by decide +kernel
theorem dX5_reckon_70 : decode cX5_reckon 70 = .ok (.iconst 1, 1) := by decide +kernel
theorem dX5_reckon_71 : decode cX5_reckon 71 = .ok (.isub, 1) := by decide +kernel
theorem dX5_reckon_72 : decode cX5_reckon 72 = .ok (.iaload, 1) := by decide +kernel
theorem dX5_reckon_73 : decode cX5_reckon 73 = .ok (.ifCond .ne 7, 3) := by decide +kernel
theorem dX5_reckon_76 : decode cX5_reckon 76 = .ok (.iconst 1, 1) := by decide +kernel
theorem dX5_reckon_77 : decode cX5_reckon 77 = .ok (.goto 4, 3) := by decide +kernel
theorem dX5_reckon_80 : decode cX5_reckon 80 = .ok (.iconst 0, 1) := by decide +kernel
theorem dX5_reckon_81 : decode cX5_reckon 81 = .ok (.iastore, 1) := by decide +kernel
theorem dX5_reckon_82 : decode cX5_reckon 82 = .ok (.goto 30, 3) := by decide +kernel
theorem dX5_reckon_85 : decode cX5_reckon 85 = .ok (.iload_n 3, 1) := by decide +kernel
theorem dX5_reckon_86 : decode cX5_reckon 86 = .ok (.iconst 1, 1) := by decide +kernel
theorem dX5_reckon_87 : decode cX5_reckon 87 = .ok (.if_icmp .le 25, 3) := by decide +kernel
theorem dX5_reckon_90 : decode cX5_reckon 90 = .ok (.iinc 3 (-1), 3) := by decide +kernel
theorem dX5_reckon_93 : decode cX5_reckon 93 = .ok (.aload_n 2, 1) := by decide +kernel
theorem dX5_reckon_94 : decode cX5_reckon 94 = .ok (.iload_n 3, 1) := by decide +kernel
theorem dX5_reckon_95 : decode cX5_reckon 95 = .ok (.iconst 1, 1) := by decide +kernel
theorem dX5_reckon_96 : decode cX5_reckon 96 = .ok (.isub, 1) := by decide +kernel
theorem dX5_reckon_97 : decode cX5_reckon 97 = .ok (.iload 5, 2) := by decide +kernel
theorem dX5_reckon_99 : decode cX5_reckon 99 = .ok (.ineg, 1) := by decide +kernel
theorem dX5_reckon_100 : decode cX5_reckon 100 = .ok (.aload_n 2, 1) := by decide +kernel
theorem dX5_reckon_101 : decode cX5_reckon 101 = .ok (.iload_n 3, 1) := by decide +kernel
theorem dX5_reckon_102 : decode cX5_reckon 102 = .ok (.iconst 1, 1) := by decide +kernel
theorem dX5_reckon_103 : decode cX5_reckon 103 = .ok (.isub, 1) := by decide +kernel
theorem dX5_reckon_104 : decode cX5_reckon 104 = .ok (.iaload, 1) := by decide +kernel
theorem dX5_reckon_105 : decode cX5_reckon 105 = .ok (.aload_n 2, 1) := by decide +kernel
theorem dX5_reckon_106 : decode cX5_reckon 106 = .ok (.iload_n 3, 1) := by decide +kernel
theorem dX5_reckon_107 : decode cX5_reckon 107 = .ok (.iaload, 1) := by decide +kernel
theorem dX5_reckon_108 : decode cX5_reckon 108 = .ok (.invokestatic 29, 3) := by decide +kernel
theorem dX5_reckon_111 : decode cX5_reckon 111 = .ok (.iastore, 1) := by decide +kernel
theorem dX5_reckon_112 : decode cX5_reckon 112 = .ok (.iinc 4 1, 3) := by decide +kernel
theorem dX5_reckon_115 : decode cX5_reckon 115 = .ok (.goto (-106), 3) := by decide +kernel
theorem dX5_reckon_118 : decode cX5_reckon 118 = .ok (.aload_n 2, 1) := by decide +kernel
theorem dX5_reckon_119 : decode cX5_reckon 119 = .ok (.iconst 0, 1) := by decide +kernel
theorem dX5_reckon_120 : decode cX5_reckon 120 = .ok (.iaload, 1) := by decide +kernel
theorem dX5_reckon_121 : decode cX5_reckon 121 = .ok (.ireturn, 1) := by decide +kernel
theorem dX5_valueOf_0 : decode cX5_valueOf 0 = .ok (.iload_n 0, 1) := by decide +kernel
theorem dX5_valueOf_1 : decode cX5_valueOf 1 = .ok (.sipush 10000, 3) := by decide +kernel
theorem dX5_valueOf_4 : decode cX5_valueOf 4 = .ok (.isub, 1) := by decide +kernel
theorem dX5_valueOf_5 : decode cX5_valueOf 5 = .ok (.istore_n 2, 1) := by decide +kernel
theorem dX5_valueOf_6 : decode cX5_valueOf 6 = .ok (.iload_n 2, 1) := by decide +kernel
theorem dX5_valueOf_7 : decode cX5_valueOf 7 = .ok (.ifCond .ge 5, 3) := by decide +kernel
theorem dX5_valueOf_10 : decode cX5_valueOf 10 = .ok (.iload_n 0, 1) := by decide +kernel
theorem dX5_valueOf_11 : decode cX5_valueOf 11 = .ok (.ireturn, 1) := by decide +kernel
theorem dX5_valueOf_12 : decode cX5_valueOf 12 = .ok (.iload_n 2, 1) := by decide +kernel
theorem dX5_valueOf_13 : decode cX5_valueOf 13 = .ok (.aload_n 1, 1) := by decide +kernel
theorem dX5_valueOf_14 : decode cX5_valueOf 14 = .ok (.arraylength, 1) := by decide +kernel
theorem dX5_valueOf_15 : decode cX5_valueOf 15 = .ok (.if_icmp .ge 9, 3) := by decide +kernel
theorem dX5_valueOf_18 : decode cX5_valueOf 18 = .ok (.aload_n 1, 1) := by decide +kernel
theorem dX5_valueOf_19 : decode cX5_valueOf 19 = .ok (.iload_n 2, 1) := by decide +kernel
theorem dX5_valueOf_20 : decode cX5_valueOf 20 = .ok (.iaload, 1) := by decide +kernel
theorem dX5_valueOf_21 : decode cX5_valueOf 21 = .ok (.goto 4, 3) := by decide +kernel
theorem dX5_valueOf_24 : decode cX5_valueOf 24 = .ok (.iconst 0, 1) := by decide +kernel
theorem dX5_valueOf_25 : decode cX5_valueOf 25 = .ok (.ireturn, 1) := by decide +kernel
theorem dX5_join_0 : decode cX5_join 0 = .ok (.iload_n 0, 1) := by decide +kernel
theorem dX5_join_1 : decode cX5_join 1 = .ok (.lookupswitch 188 #[(37, 176), (38, 105), (42, 160), (43, 152), (45, 156), (47, 164), (60, 119), (61, 130), (62, 141), (124, 91)], 91) := by decide +kernel
theorem dX5_join_92 : decode cX5_join 92 = .ok (.iload_n 1, 1) := by decide +kernel
theorem dX5_join_93 : decode cX5_join 93 = .ok (.ifCond .ne 7, 3) := by decide +kernel
theorem dX5_join_96 : decode cX5_join 96 = .ok (.iload_n 2, 1) := by decide +kernel
theorem dX5_join_97 : decode cX5_join 97 = .ok (.ifCond .eq 7, 3) := by decide +kernel
theorem dX5_join_100 : decode cX5_join 100 = .ok (.iconst 1, 1) := by decide +kernel
theorem dX5_join_101 : decode cX5_join 101 = .ok (.goto 4, 3) := by decide +kernel
theorem dX5_join_104 : decode cX5_join 104 = .ok (.iconst 0, 1) := by decide +kernel
theorem dX5_join_105 : decode cX5_join 105 = .ok (.ireturn, 1) := by decide +kernel
theorem dX5_join_106 : decode cX5_join 106 = .ok (.iload_n 1, 1) := by decide +kernel
theorem dX5_join_107 : decode cX5_join 107 = .ok (.ifCond .eq 11, 3) := by decide +kernel
theorem dX5_join_110 : decode cX5_join 110 = .ok (.iload_n 2, 1) := by decide +kernel
theorem dX5_join_111 : decode cX5_join 111 = .ok (.ifCond .eq 7, 3) := by decide +kernel
theorem dX5_join_114 : decode cX5_join 114 = .ok (.iconst 1, 1) := by decide +kernel
theorem dX5_join_115 : decode cX5_join 115 = .ok (.goto 4, 3) := by decide +kernel
theorem dX5_join_118 : decode cX5_join 118 = .ok (.iconst 0, 1) := by decide +kernel
theorem dX5_join_119 : decode cX5_join 119 = .ok (.ireturn, 1) := by decide +kernel
theorem dX5_join_120 : decode cX5_join 120 = .ok (.iload_n 1, 1) := by decide +kernel
theorem dX5_join_121 : decode cX5_join 121 = .ok (.iload_n 2, 1) := by decide +kernel
theorem dX5_join_122 : decode cX5_join 122 = .ok (.if_icmp .ge 7, 3) := by decide +kernel
theorem dX5_join_125 : decode cX5_join 125 = .ok (.iconst 1, 1) := by decide +kernel
theorem dX5_join_126 : decode cX5_join 126 = .ok (.goto 4, 3) := by decide +kernel
theorem dX5_join_129 : decode cX5_join 129 = .ok (.iconst 0, 1) := by decide +kernel
theorem dX5_join_130 : decode cX5_join 130 = .ok (.ireturn, 1) := by decide +kernel
theorem dX5_join_131 : decode cX5_join 131 = .ok (.iload_n 1, 1) := by decide +kernel
theorem dX5_join_132 : decode cX5_join 132 = .ok (.iload_n 2, 1) := by decide +kernel
theorem dX5_join_133 : decode cX5_join 133 = .ok (.if_icmp .ne 7, 3) := by decide +kernel
theorem dX5_join_136 : decode cX5_join 136 = .ok (.iconst 1, 1) := by decide +kernel
theorem dX5_join_137 : decode cX5_join 137 = .ok (.goto 4, 3) := by decide +kernel
theorem dX5_join_140 : decode cX5_join 140 = .ok (.iconst 0, 1) := by decide +kernel
theorem dX5_join_141 : decode cX5_join 141 = .ok (.ireturn, 1) := by decide +kernel
theorem dX5_join_142 : decode cX5_join 142 = .ok (.iload_n 1, 1) := by decide +kernel
theorem dX5_join_143 : decode cX5_join 143 = .ok (.iload_n 2, 1) := by decide +kernel
theorem dX5_join_144 : decode cX5_join 144 = .ok (.if_icmp .le 7, 3) := by decide +kernel
theorem dX5_join_147 : decode cX5_join 147 = .ok (.iconst 1, 1) := by decide +kernel
theorem dX5_join_148 : decode cX5_join 148 = .ok (.goto 4, 3) := by decide +kernel
theorem dX5_join_151 : decode cX5_join 151 = .ok (.iconst 0, 1) := by decide +kernel
theorem dX5_join_152 : decode cX5_join 152 = .ok (.ireturn, 1) := by decide +kernel
theorem dX5_join_153 : decode cX5_join 153 = .ok (.iload_n 1, 1) := by decide +kernel
theorem dX5_join_154 : decode cX5_join 154 = .ok (.iload_n 2, 1) := by decide +kernel
theorem dX5_join_155 : decode cX5_join 155 = .ok (.iadd, 1) := by decide +kernel
theorem dX5_join_156 : decode cX5_join 156 = .ok (.ireturn, 1) := by decide +kernel
theorem dX5_join_157 : decode cX5_join 157 = .ok (.iload_n 1, 1) := by decide +kernel
theorem dX5_join_158 : decode cX5_join 158 = .ok (.iload_n 2, 1) := by decide +kernel
theorem dX5_join_159 : decode cX5_join 159 = .ok (.isub, 1) := by decide +kernel
theorem dX5_join_160 : decode cX5_join 160 = .ok (.ireturn, 1) := by decide +kernel
theorem dX5_join_161 : decode cX5_join 161 = .ok (.iload_n 1, 1) := by decide +kernel
theorem dX5_join_162 : decode cX5_join 162 = .ok (.iload_n 2, 1) := by decide +kernel
theorem dX5_join_163 : decode cX5_join 163 = .ok (.imul, 1) := by decide +kernel
theorem dX5_join_164 : decode cX5_join 164 = .ok (.ireturn, 1) := by decide +kernel
theorem dX5_join_165 : decode cX5_join 165 = .ok (.iload_n 2, 1) := by decide +kernel
theorem dX5_join_166 : decode cX5_join 166 = .ok (.ifCond .ne 7, 3) := by decide +kernel
theorem dX5_join_169 : decode cX5_join 169 = .ok (.iconst 0, 1) := by decide +kernel
theorem dX5_join_170 : decode cX5_join 170 = .ok (.goto 6, 3) := by decide +kernel
theorem dX5_join_173 : decode cX5_join 173 = .ok (.iload_n 1, 1) := by decide +kernel
theorem dX5_join_174 : decode cX5_join 174 = .ok (.iload_n 2, 1) := by decide +kernel
theorem dX5_join_175 : decode cX5_join 175 = .ok (.idiv, 1) := by decide +kernel
theorem dX5_join_176 : decode cX5_join 176 = .ok (.ireturn, 1) := by decide +kernel
theorem dX5_join_177 : decode cX5_join 177 = .ok (.iload_n 2, 1) := by decide +kernel
theorem dX5_join_178 : decode cX5_join 178 = .ok (.ifCond .ne 7, 3) := by decide +kernel
theorem dX5_join_181 : decode cX5_join 181 = .ok (.iconst 0, 1) := by decide +kernel
theorem dX5_join_182 : decode cX5_join 182 = .ok (.goto 6, 3) := by decide +kernel
theorem dX5_join_185 : decode cX5_join 185 = .ok (.iload_n 1, 1) := by decide +kernel
theorem dX5_join_186 : decode cX5_join 186 = .ok (.iload_n 2, 1) := by decide +kernel
theorem dX5_join_187 : decode cX5_join 187 = .ok (.irem, 1) := by decide +kernel
theorem dX5_join_188 : decode cX5_join 188 = .ok (.ireturn, 1) := by decide +kernel
theorem dX5_join_189 : decode cX5_join 189 = .ok (.iconst 0, 1) := by decide +kernel
theorem dX5_join_190 : decode cX5_join 190 = .ok (.ireturn, 1) := by decide +kernel
theorem dX6_init_0 : decode cX6_init 0 = .ok (.aload_n 0, 1) := by decide +kernel
theorem dX6_init_1 : decode cX6_init 1 = .ok (.invokespecial 3, 3) := by decide +kernel
theorem dX6_init_4 : decode cX6_init 4 = .ok (.aload_n 0, 1) := by decide +kernel
theorem dX6_init_5 : decode cX6_init 5 = .ok (.bipush 40, 2) := by decide +kernel
theorem dX6_init_7 : decode cX6_init 7 = .ok (.newarray .int, 2) := by decide +kernel
theorem dX6_init_9 : decode cX6_init 9 = .ok (.putfield 11, 3) := by decide +kernel
theorem dX6_init_12 : decode cX6_init 12 = .ok (.aload_n 0, 1) := by decide +kernel
theorem dX6_init_13 : decode cX6_init 13 = .ok (.iconst 0, 1) := by decide +kernel
theorem dX6_init_14 : decode cX6_init 14 = .ok (.putfield 15, 3) := by decide +kernel
theorem dX6_init_17 : decode cX6_init 17 = .ok (.aload_n 0, 1) := by decide +kernel
theorem dX6_init_18 : decode cX6_init 18 = .ok (.iconst 0, 1) := by decide +kernel
theorem dX6_init_19 : decode cX6_init 19 = .ok (.putfield 19, 3) := by decide +kernel
theorem dX6_init_22 : decode cX6_init 22 = .ok (.aload_n 0, 1) := by decide +kernel
theorem dX6_init_23 : decode cX6_init 23 = .ok (.iconst 0, 1) := by decide +kernel
theorem dX6_init_24 : decode cX6_init 24 = .ok (.putfield 22, 3) := by decide +kernel
theorem dX6_init_27 : decode cX6_init 27 = .ok (.aload_n 0, 1) := by decide +kernel
theorem dX6_init_28 : decode cX6_init 28 = .ok (.iconst 0, 1) := by decide +kernel
theorem dX6_init_29 : decode cX6_init 29 = .ok (.putfield 25, 3) := by decide +kernel
theorem dX6_init_32 : decode cX6_init 32 = .ok (.return_, 1) := by decide +kernel
theorem dX6_begin_0 : decode cX6_begin 0 = .ok (.aload_n 0, 1) := by decide +kernel
theorem dX6_begin_1 : decode cX6_begin 1 = .ok (.iload_n 1, 1) := by decide +kernel
theorem dX6_begin_2 : decode cX6_begin 2 = .ok (.putfield 19, 3) := by decide +kernel
theorem dX6_begin_5 : decode cX6_begin 5 = .ok (.aload_n 0, 1) := by decide +kernel
theorem dX6_begin_6 : decode cX6_begin 6 = .ok (.iload_n 2, 1) := by decide +kernel
theorem dX6_begin_7 : decode cX6_begin 7 = .ok (.putfield 22, 3) := by decide +kernel
theorem dX6_begin_10 : decode cX6_begin 10 = .ok (.aload_n 0, 1) := by decide +kernel
theorem dX6_begin_11 : decode cX6_begin 11 = .ok (.iload_n 3, 1) := by decide +kernel
theorem dX6_begin_12 : decode cX6_begin 12 = .ok (.putfield 25, 3) := by decide +kernel
theorem dX6_begin_15 : decode cX6_begin 15 = .ok (.aload_n 0, 1) := by decide +kernel
theorem dX6_begin_16 : decode cX6_begin 16 = .ok (.iconst 0, 1) := by decide +kernel
theorem dX6_begin_17 : decode cX6_begin 17 = .ok (.putfield 15, 3) := by decide +kernel
theorem dX6_begin_20 : decode cX6_begin 20 = .ok (.return_, 1) := by decide +kernel
set_option maxRecDepth 20000 in
theorem ggX6_say_X6_bodyOf : GoodIn wsX6_say wsX6_bodyOf := goodIn_r _ [6, 7] (by decide +kernel) (by decide +kernel)
set_option maxRecDepth 20000 in
theorem gX6_say_X6_bodyOf : GoodIn wsX6_say (va_wsS RX6 28 yX6_bodyOf wsX6_bodyOf) := goodIn_app (goodIn_of _ (by decide +kernel)) ggX6_say_X6_bodyOf
set_option maxRecDepth 20000 in
theorem ggX6_say_X6_follow : GoodIn wsX6_say wsX6_follow := goodIn_r _ [11, 12, 13, 14, 15, 16, 17, 5, 0, 1, 2, 3, 4, 6, 7, 8, 9, 10, 18, 19, 20, 21, 22] (by decide +kernel) (by decide +kernel)
set_option maxRecDepth 20000 in
theorem gX6_say_X6_follow : GoodIn wsX6_say (wsV RX6 32 RX6 yX6_follow wsX6_follow) := goodIn_app (goodIn_of _ (by decide +kernel)) ggX6_say_X6_follow
theorem dX6_say_0 : decode cX6_say 0 = .ok (.iload 4, 2) := by decide +kernel
theorem dX6_say_2 : decode cX6_say 2 = .ok (.bipush 30, 2) := by decide +kernel
theorem dX6_say_4 : decode cX6_say 4 = .ok (.if_icmp .le 5, 3) := by decide +kernel
theorem dX6_say_7 : decode cX6_say 7 = .ok (.iconst 0, 1) := by decide +kernel
theorem dX6_say_8 : decode cX6_say 8 = .ok (.ireturn, 1) := by decide +kernel
theorem dX6_say_9 : decode cX6_say 9 = .ok (.iload_n 1, 1) := by decide +kernel
theorem dX6_say_10 : decode cX6_say 10 = .ok (.iload_n 2, 1) := by decide +kernel
theorem dX6_say_11 : decode cX6_say 11 = .ok (.invokestatic 28, 3) := by decide +kernel
theorem dX6_say_14 : decode cX6_say 14 = .ok (.istore 5, 2) := by decide +kernel
theorem dX6_say_16 : decode cX6_say 16 = .ok (.aload_n 0, 1) := by decide +kernel
theorem dX6_say_17 : decode cX6_say 17 = .ok (.getfield 15, 3) := by decide +kernel
theorem dX6_say_20 : decode cX6_say 20 = .ok (.bipush 40, 2) := by decide +kernel
theorem dX6_say_22 : decode cX6_say 22 = .ok (.if_icmp .ge 24, 3) := by decide +kernel
theorem dX6_say_25 : decode cX6_say 25 = .ok (.aload_n 0, 1) := by decide +kernel
theorem dX6_say_26 : decode cX6_say 26 = .ok (.getfield 11, 3) := by decide +kernel
theorem dX6_say_29 : decode cX6_say 29 = .ok (.aload_n 0, 1) := by decide +kernel
theorem dX6_say_30 : decode cX6_say 30 = .ok (.getfield 15, 3) := by decide +kernel
theorem dX6_say_33 : decode cX6_say 33 = .ok (.iload 5, 2) := by decide +kernel
theorem dX6_say_35 : decode cX6_say 35 = .ok (.iastore, 1) := by decide +kernel
theorem dX6_say_36 : decode cX6_say 36 = .ok (.aload_n 0, 1) := by decide +kernel
theorem dX6_say_37 : decode cX6_say 37 = .ok (.dup, 1) := by decide +kernel
theorem dX6_say_38 : decode cX6_say 38 = .ok (.getfield 15, 3) := by decide +kernel
theorem dX6_say_41 : decode cX6_say 41 = .ok (.iconst 1, 1) := by decide +kernel
theorem dX6_say_42 : decode cX6_say 42 = .ok (.iadd, 1) := by decide +kernel
theorem dX6_say_43 : decode cX6_say 43 = .ok (.putfield 15, 3) := by decide +kernel
theorem dX6_say_46 : decode cX6_say 46 = .ok (.aload_n 0, 1) := by decide +kernel
theorem dX6_say_47 : decode cX6_say 47 = .ok (.iload 5, 2) := by decide +kernel
theorem dX6_say_49 : decode cX6_say 49 = .ok (.iload_n 3, 1) := by decide +kernel
theorem dX6_say_50 : decode cX6_say 50 = .ok (.iload 4, 2) := by decide +kernel
theorem dX6_say_52 : decode cX6_say 52 = .ok (.iconst 1, 1) := by decide +kernel
theorem dX6_say_53 : decode cX6_say 53 = .ok (.iadd, 1) := by decide +kernel
theorem dX6_say_54 : decode cX6_say 54 = .ok (.invokevirtual 32, 3) := by decide +kernel
theorem dX6_say_57 : decode cX6_say 57 = .ok (.ireturn, 1) := by decide +kernel
theorem dX6_bodyOf_0 : decode cX6_bodyOf 0 = .ok (.iload_n 0, 1) := by decide +kernel
theorem dX6_bodyOf_1 : decode cX6_bodyOf 1 = .ok (.istore_n 2, 1) := by decide +kernel
theorem dX6_bodyOf_2 : decode cX6_bodyOf 2 = .ok (.iconst 0, 1) := by decide +kernel
theorem dX6_bodyOf_3 : decode cX6_bodyOf 3 = .ok (.istore_n 3, 1) := by decide +kernel
theorem dX6_bodyOf_4 : decode cX6_bodyOf 4 = .ok (.iload_n 3, 1) := by decide +kernel
theorem dX6_bodyOf_5 : decode cX6_bodyOf 5 = .ok (.getstatic 36, 3) := by decide +kernel
theorem dX6_bodyOf_8 : decode cX6_bodyOf 8 = .ok (.arraylength, 1) := by decide +kernel
theorem dX6_bodyOf_9 : decode cX6_bodyOf 9 = .ok (.if_icmp .ge 31, 3) := by decide +kernel
theorem dX6_bodyOf_12 : decode cX6_bodyOf 12 = .ok (.iload_n 2, 1) := by decide +kernel
theorem dX6_bodyOf_13 : decode cX6_bodyOf 13 = .ok (.ifCond .le 27, 3) := by decide +kernel
theorem dX6_bodyOf_16 : decode cX6_bodyOf 16 = .ok (.getstatic 39, 3) := by decide +kernel
theorem dX6_bodyOf_19 : decode cX6_bodyOf 19 = .ok (.iload_n 2, 1) := by decide +kernel
theorem dX6_bodyOf_20 : decode cX6_bodyOf 20 = .ok (.iconst 4, 1) := by decide +kernel
theorem dX6_bodyOf_21 : decode cX6_bodyOf 21 = .ok (.imul, 1) := by decide +kernel
theorem dX6_bodyOf_22 : decode cX6_bodyOf 22 = .ok (.iload_n 1, 1) := by decide +kernel
theorem dX6_bodyOf_23 : decode cX6_bodyOf 23 = .ok (.iadd, 1) := by decide +kernel
theorem dX6_bodyOf_24 : decode cX6_bodyOf 24 = .ok (.iaload, 1) := by decide +kernel
theorem dX6_bodyOf_25 : decode cX6_bodyOf 25 = .ok (.ifCond .ne 15, 3) := by decide +kernel
theorem dX6_bodyOf_28 : decode cX6_bodyOf 28 = .ok (.getstatic 36, 3) := by decide +kernel
theorem dX6_bodyOf_31 : decode cX6_bodyOf 31 = .ok (.iload_n 2, 1) := by decide +kernel
theorem dX6_bodyOf_32 : decode cX6_bodyOf 32 = .ok (.iaload, 1) := by decide +kernel
theorem dX6_bodyOf_33 : decode cX6_bodyOf 33 = .ok (.istore_n 2, 1) := by decide +kernel
theorem dX6_bodyOf_34 : decode cX6_bodyOf 34 = .ok (.iinc 3 1, 3) := by decide +kernel
theorem dX6_bodyOf_37 : decode cX6_bodyOf 37 = .ok (.goto (-33), 3) := by decide +kernel
theorem dX6_bodyOf_40 : decode cX6_bodyOf 40 = .ok (.getstatic 39, 3) := by decide +kernel
theorem dX6_bodyOf_43 : decode cX6_bodyOf 43 = .ok (.iload_n 2, 1) := by decide +kernel
theorem dX6_bodyOf_44 : decode cX6_bodyOf 44 = .ok (.iconst 4, 1) := by decide +kernel
theorem dX6_bodyOf_45 : decode cX6_bodyOf 45 = .ok (.imul, 1) := by decide +kernel
theorem dX6_bodyOf_46 : decode cX6_bodyOf 46 = .ok (.iload_n 1, 1) := by decide +kernel
theorem dX6_bodyOf_47 : decode cX6_bodyOf 47 = .ok (.iadd, 1) := by decide +kernel
theorem dX6_bodyOf_48 : decode cX6_bodyOf 48 = .ok (.iaload, 1) := by decide +kernel
theorem dX6_bodyOf_49 : decode cX6_bodyOf 49 = .ok (.ireturn, 1) := by decide +kernel
set_option maxRecDepth 20000 in
theorem ggX6_follow_X6_say : GoodIn wsX6_follow wsX6_say := goodIn_r _ [8, 9, 10, 11, 12, 7, 13, 14, 15, 16, 17, 0, 1, 2, 3, 4, 5, 6, 18, 19, 20, 21, 22] (by decide +kernel) (by decide +kernel)
set_option maxRecDepth 20000 in
theorem gX6_follow_X6_say : GoodIn wsX6_follow (wsV RX6 42 RX6 yX6_say wsX6_say) := goodIn_app (goodIn_of _ (by decide +kernel)) ggX6_follow_X6_say
theorem dX6_follow_0 : decode cX6_follow 0 = .ok (.iload_n 1, 1) := by decide +kernel
theorem dX6_follow_1 : decode cX6_follow 1 = .ok (.lookupswitch 291 #[(10, 115), (11, 122), (12, 136), (13, 143), (20, 167), (30, 178), (31, 199), (40, 210), (50, 220), (60, 241), (61, 252), (70, 266), (71, 280)], 115) := by decide +kernel
theorem dX6_follow_116 : decode cX6_follow 116 = .ok (.iload_n 2, 1) := by decide +kernel
theorem dX6_follow_117 : decode cX6_follow 117 = .ok (.aload_n 0, 1) := by decide +kernel
theorem dX6_follow_118 : decode cX6_follow 118 = .ok (.getfield 22, 3) := by decide +kernel
theorem dX6_follow_121 : decode cX6_follow 121 = .ok (.iadd, 1) := by decide +kernel
theorem dX6_follow_122 : decode cX6_follow 122 = .ok (.ireturn, 1) := by decide +kernel
theorem dX6_follow_123 : decode cX6_follow 123 = .ok (.aload_n 0, 1) := by decide +kernel
theorem dX6_follow_124 : decode cX6_follow 124 = .ok (.aload_n 0, 1) := by decide +kernel
theorem dX6_follow_125 : decode cX6_follow 125 = .ok (.getfield 19, 3) := by decide +kernel
theorem dX6_follow_128 : decode cX6_follow 128 = .ok (.iconst 0, 1) := by decide +kernel
theorem dX6_follow_129 : decode cX6_follow 129 = .ok (.iload_n 2, 1) := by decide +kernel
theorem dX6_follow_130 : decode cX6_follow 130 = .ok (.iload_n 3, 1) := by decide +kernel
theorem dX6_follow_131 : decode cX6_follow 131 = .ok (.invokevirtual 42, 3) := by decide +kernel
theorem dX6_follow_134 : decode cX6_follow 134 = .ok (.iconst 2, 1) := by decide +kernel
theorem dX6_follow_135 : decode cX6_follow 135 = .ok (.imul, 1) := by decide +kernel
theorem dX6_follow_136 : decode cX6_follow 136 = .ok (.ireturn, 1) := by decide +kernel
theorem dX6_follow_137 : decode cX6_follow 137 = .ok (.iload_n 2, 1) := by decide +kernel
theorem dX6_follow_138 : decode cX6_follow 138 = .ok (.aload_n 0, 1) := by decide +kernel
theorem dX6_follow_139 : decode cX6_follow 139 = .ok (.getfield 25, 3) := by decide +kernel
theorem dX6_follow_142 : decode cX6_follow 142 = .ok (.isub, 1) := by decide +kernel
theorem dX6_follow_143 : decode cX6_follow 143 = .ok (.ireturn, 1) := by decide +kernel
theorem dX6_follow_144 : decode cX6_follow 144 = .ok (.aload_n 0, 1) := by decide +kernel
theorem dX6_follow_145 : decode cX6_follow 145 = .ok (.aload_n 0, 1) := by decide +kernel
theorem dX6_follow_146 : decode cX6_follow 146 = .ok (.getfield 19, 3) := by decide +kernel
theorem dX6_follow_149 : decode cX6_follow 149 = .ok (.iconst 1, 1) := by decide +kernel
theorem dX6_follow_150 : decode cX6_follow 150 = .ok (.iload_n 2, 1) := by decide +kernel
theorem dX6_follow_151 : decode cX6_follow 151 = .ok (.iload_n 3, 1) := by decide +kernel
theorem dX6_follow_152 : decode cX6_follow 152 = .ok (.invokevirtual 42, 3) := by decide +kernel
theorem dX6_follow_155 : decode cX6_follow 155 = .ok (.aload_n 0, 1) := by decide +kernel
theorem dX6_follow_156 : decode cX6_follow 156 = .ok (.aload_n 0, 1) := by decide +kernel
theorem dX6_follow_157 : decode cX6_follow 157 = .ok (.getfield 19, 3) := by decide +kernel
theorem dX6_follow_160 : decode cX6_follow 160 = .ok (.iconst 2, 1) := by decide +kernel
theorem dX6_follow_161 : decode cX6_follow 161 = .ok (.iload_n 2, 1) := by decide +kernel
theorem dX6_follow_162 : decode cX6_follow 162 = .ok (.iload_n 3, 1) := by decide +kernel
theorem dX6_follow_163 : decode cX6_follow 163 = .ok (.invokevirtual 42, 3) := by decide +kernel
theorem dX6_follow_166 : decode cX6_follow 166 = .ok (.ixor, 1) := by decide +kernel
theorem dX6_follow_167 : decode cX6_follow 167 = .ok (.ireturn, 1) := by decide +kernel
theorem dX6_follow_168 : decode cX6_follow 168 = .ok (.aload_n 0, 1) := by decide +kernel
theorem dX6_follow_169 : decode cX6_follow 169 = .ok (.iconst 0, 1) := by decide +kernel
theorem dX6_follow_170 : decode cX6_follow 170 = .ok (.iconst 0, 1) := by decide +kernel
theorem dX6_follow_171 : decode cX6_follow 171 = .ok (.iload_n 2, 1) := by decide +kernel
theorem dX6_follow_172 : decode cX6_follow 172 = .ok (.iload_n 3, 1) := by decide +kernel
theorem dX6_follow_173 : decode cX6_follow 173 = .ok (.invokevirtual 42, 3) := by decide +kernel
theorem dX6_follow_176 : decode cX6_follow 176 = .ok (.iconst 2, 1) := by decide +kernel
theorem dX6_follow_177 : decode cX6_follow 177 = .ok (.isub, 1) := by decide +kernel
theorem dX6_follow_178 : decode cX6_follow 178 = .ok (.ireturn, 1) := by decide +kernel
theorem dX6_follow_179 : decode cX6_follow 179 = .ok (.aload_n 0, 1) := by decide +kernel
theorem dX6_follow_180 : decode cX6_follow 180 = .ok (.iconst 1, 1) := by decide +kernel
theorem dX6_follow_181 : decode cX6_follow 181 = .ok (.iconst 1, 1) := by decide +kernel
theorem dX6_follow_182 : decode cX6_follow 182 = .ok (.iload_n 2, 1) := by decide +kernel
theorem dX6_follow_183 : decode cX6_follow 183 = .ok (.iload_n 3, 1) := by decide +kernel
theorem dX6_follow_184 : decode cX6_follow 184 = .ok (.invokevirtual 42, 3) := by decide +kernel
theorem dX6_follow_187 : decode cX6_follow 187 = .ok (.aload_n 0, 1) := by decide +kernel
theorem dX6_follow_188 : decode cX6_follow 188 = .ok (.aload_n 0, 1) := by decide +kernel
theorem dX6_follow_189 : decode cX6_follow 189 = .ok (.getfield 19, 3) := by decide +kernel
theorem dX6_follow_192 : decode cX6_follow 192 = .ok (.iconst 2, 1) := by decide +kernel
theorem dX6_follow_193 : decode cX6_follow 193 = .ok (.iconst 1, 1) := by decide +kernel
theorem dX6_follow_194 : decode cX6_follow 194 = .ok (.iload_n 3, 1) := by decide +kernel
theorem dX6_follow_195 : decode cX6_follow 195 = .ok (.invokevirtual 42, 3) := by decide +kernel
theorem dX6_follow_198 : decode cX6_follow 198 = .ok (.iadd, 1) := by decide +kernel
theorem dX6_follow_199 : decode cX6_follow 199 = .ok (.ireturn, 1) := by decide +kernel
theorem dX6_follow_200 : decode cX6_follow 200 = .ok (.aload_n 0, 1) := by decide +kernel
theorem dX6_follow_201 : decode cX6_follow 201 = .ok (.iconst 1, 1) := by decide +kernel
theorem dX6_follow_202 : decode cX6_follow 202 = .ok (.iconst 0, 1) := by decide +kernel
theorem dX6_follow_203 : decode cX6_follow 203 = .ok (.iload_n 2, 1) := by decide +kernel
theorem dX6_follow_204 : decode cX6_follow 204 = .ok (.iload_n 3, 1) := by decide +kernel
theorem dX6_follow_205 : decode cX6_follow 205 = .ok (.invokevirtual 42, 3) := by decide +kernel
theorem dX6_follow_208 : decode cX6_follow 208 = .ok (.iconst 3, 1) := by decide +kernel
theorem dX6_follow_209 : decode cX6_follow 209 = .ok (.imul, 1) := by decide +kernel
theorem dX6_follow_210 : decode cX6_follow 210 = .ok (.ireturn, 1) := by decide +kernel
theorem dX6_follow_211 : decode cX6_follow 211 = .ok (.aload_n 0, 1) := by decide +kernel
theorem dX6_follow_212 : decode cX6_follow 212 = .ok (.iconst 0, 1) := by decide +kernel
theorem dX6_follow_213 : decode cX6_follow 213 = .ok (.iconst 2, 1) := by decide +kernel
theorem dX6_follow_214 : decode cX6_follow 214 = .ok (.iload_n 2, 1) := by decide +kernel
theorem dX6_follow_215 : decode cX6_follow 215 = .ok (.iload_n 3, 1) := by decide +kernel
theorem dX6_follow_216 : decode cX6_follow 216 = .ok (.invokevirtual 42, 3) := by decide +kernel
theorem dX6_follow_219 : decode cX6_follow 219 = .ok (.ineg, 1) := by decide +kernel
theorem dX6_follow_220 : decode cX6_follow 220 = .ok (.ireturn, 1) := by decide +kernel
theorem dX6_follow_221 : decode cX6_follow 221 = .ok (.aload_n 0, 1) := by decide +kernel
theorem dX6_follow_222 : decode cX6_follow 222 = .ok (.aload_n 0, 1) := by decide +kernel
theorem dX6_follow_223 : decode cX6_follow 223 = .ok (.getfield 19, 3) := by decide +kernel
theorem dX6_follow_226 : decode cX6_follow 226 = .ok (.iconst 0, 1) := by decide +kernel
theorem dX6_follow_227 : decode cX6_follow 227 = .ok (.iconst 2, 1) := by decide +kernel
theorem dX6_follow_228 : decode cX6_follow 228 = .ok (.iload_n 3, 1) := by decide +kernel
theorem dX6_follow_229 : decode cX6_follow 229 = .ok (.invokevirtual 42, 3) := by decide +kernel
theorem dX6_follow_232 : decode cX6_follow 232 = .ok (.aload_n 0, 1) := by decide +kernel
theorem dX6_follow_233 : decode cX6_follow 233 = .ok (.iconst 0, 1) := by decide +kernel
theorem dX6_follow_234 : decode cX6_follow 234 = .ok (.iconst 3, 1) := by decide +kernel
theorem dX6_follow_235 : decode cX6_follow 235 = .ok (.iload_n 2, 1) := by decide +kernel
theorem dX6_follow_236 : decode cX6_follow 236 = .ok (.iload_n 3, 1) := by decide +kernel
theorem dX6_follow_237 : decode cX6_follow 237 = .ok (.invokevirtual 42, 3) := by decide +kernel
theorem dX6_follow_240 : decode cX6_follow 240 = .ok (.isub, 1) := by decide +kernel
theorem dX6_follow_241 : decode cX6_follow 241 = .ok (.ireturn, 1) := by decide +kernel
theorem dX6_follow_242 : decode cX6_follow 242 = .ok (.aload_n 0, 1) := by decide +kernel
theorem dX6_follow_243 : decode cX6_follow 243 = .ok (.iconst 3, 1) := by decide +kernel
theorem dX6_follow_244 : decode cX6_follow 244 = .ok (.iconst 2, 1) := by decide +kernel
theorem dX6_follow_245 : decode cX6_follow 245 = .ok (.iload_n 2, 1) := by decide +kernel
theorem dX6_follow_246 : decode cX6_follow 246 = .ok (.iconst 1, 1) := by decide +kernel
theorem dX6_follow_247 : decode cX6_follow 247 = .ok (.iadd, 1) := by decide +kernel
theorem dX6_follow_248 : decode cX6_follow 248 = .ok (.iload_n 3, 1) := by decide +kernel
theorem dX6_follow_249 : decode cX6_follow 249 = .ok (.invokevirtual 42, 3) := by decide +kernel
theorem dX6_follow_252 : decode cX6_follow 252 = .ok (.ireturn, 1) := by decide +kernel
theorem dX6_follow_253 : decode cX6_follow 253 = .ok (.aload_n 0, 1) := by decide +kernel
theorem dX6_follow_254 : decode cX6_follow 254 = .ok (.iconst 3, 1) := by decide +kernel
theorem dX6_follow_255 : decode cX6_follow 255 = .ok (.iconst 1, 1) := by decide +kernel
theorem dX6_follow_256 : decode cX6_follow 256 = .ok (.iload_n 2, 1) := by decide +kernel
theorem dX6_follow_257 : decode cX6_follow 257 = .ok (.iload_n 3, 1) := by decide +kernel
theorem dX6_follow_258 : decode cX6_follow 258 = .ok (.invokevirtual 42, 3) := by decide +kernel
theorem dX6_follow_261 : decode cX6_follow 261 = .ok (.aload_n 0, 1) := by decide +kernel
theorem dX6_follow_262 : decode cX6_follow 262 = .ok (.getfield 22, 3) := by decide +kernel
theorem dX6_follow_265 : decode cX6_follow 265 = .ok (.ixor, 1) := by decide +kernel
theorem dX6_follow_266 : decode cX6_follow 266 = .ok (.ireturn, 1) := by decide +kernel
theorem dX6_follow_267 : decode cX6_follow 267 = .ok (.aload_n 0, 1) := by decide +kernel
theorem dX6_follow_268 : decode cX6_follow 268 = .ok (.iconst 0, 1) := by decide +kernel
theorem dX6_follow_269 : decode cX6_follow 269 = .ok (.iconst 0, 1) := by decide +kernel
theorem dX6_follow_270 : decode cX6_follow 270 = .ok (.iload_n 2, 1) := by decide +kernel
theorem dX6_follow_271 : decode cX6_follow 271 = .ok (.iload_n 3, 1) := by decide +kernel
theorem dX6_follow_272 : decode cX6_follow 272 = .ok (.invokevirtual 42, 3) := by decide +kernel
theorem dX6_follow_275 : decode cX6_follow 275 = .ok (.aload_n 0, 1) := by decide +kernel
theorem dX6_follow_276 : decode cX6_follow 276 = .ok (.getfield 25, 3) := by decide +kernel
theorem dX6_follow_279 : decode cX6_follow 279 = .ok (.iadd, 1) := by decide +kernel
theorem dX6_follow_280 : decode cX6_follow 280 = .ok (.ireturn, 1) := by decide +kernel
theorem dX6_follow_281 : decode cX6_follow 281 = .ok (.aload_n 0, 1) := by decide +kernel
theorem dX6_follow_282 : decode cX6_follow 282 = .ok (.iconst 0, 1) := by decide +kernel
theorem dX6_follow_283 : decode cX6_follow 283 = .ok (.iconst 3, 1) := by decide +kernel
theorem dX6_follow_284 : decode cX6_follow 284 = .ok (.iload_n 2, 1) := by decide +kernel
theorem dX6_follow_285 : decode cX6_follow 285 = .ok (.iload_n 3, 1) := by decide +kernel
theorem dX6_follow_286 : decode cX6_follow 286 = .ok (.invokevirtual 42, 3) := by decide +kernel
theorem dX6_follow_289 : decode cX6_follow 289 = .ok (.iconst 5, 1) := by decide +kernel
theorem dX6_follow_290 : decode cX6_follow 290 = .ok (.imul, 1) := by decide +kernel
theorem dX6_follow_291 : decode cX6_follow 291 = .ok (.ireturn, 1) := by decide +kernel
theorem dX6_follow_292 : decode cX6_follow 292 = .ok (.iconst 0, 1) := by decide +kernel
theorem dX6_follow_293 : decode cX6_follow 293 = .ok (.ireturn, 1) := by decide +kernel
set_option maxRecDepth 20000 in
theorem ggX7_init_X2_init : GoodIn wsX7_init wsX2_init := goodIn_r _ [33, 34, 2, 3, 35, 14, 36, 37, 38, 39, 40, 6, 41, 42, 43, 44, 45, 46, 47, 48, 49, 50, 74, 75, 76] (by decide +kernel) (by decide +kernel)
set_option maxRecDepth 20000 in
theorem gX7_init_X2_init : GoodIn wsX7_init (wsX2_init) := ggX7_init_X2_init
set_option maxRecDepth 20000 in
theorem ggX7_init_X0_init : GoodIn wsX7_init wsX0_init := goodIn_r _ [52, 53, 2, 3, 54, 14, 55, 56, 57, 58, 59, 60, 61, 62, 63, 64, 94, 95, 96, 97, 98, 99, 100, 101, 102, 103, 104] (by decide +kernel) (by decide +kernel)
set_option maxRecDepth 20000 in
theorem gX7_init_X0_init_n20 : GoodIn wsX7_init (wsX0_init) := ggX7_init_X0_init
set_option maxRecDepth 20000 in
theorem ggX7_init_X5_init : GoodIn wsX7_init wsX5_init := goodIn_r _ [66, 67, 2, 3, 14, 68, 69, 105, 106] (by decide +kernel) (by decide +kernel)
set_option maxRecDepth 20000 in
theorem gX7_init_X5_init_n75 : GoodIn wsX7_init (wsX5_init) := ggX7_init_X5_init
set_option maxRecDepth 20000 in
theorem ggX7_init_J7_fill_53178 : GoodIn wsX7_init wsJ7_fill_53178 := goodIn_r _ [73] (by decide +kernel) (by decide +kernel)
set_option maxRecDepth 20000 in
theorem gX7_init_J7_fill_53178 : GoodIn wsX7_init (va_wsS RX7 76 yJ7_fill_53178 wsJ7_fill_53178) := goodIn_app (goodIn_of _ (by decide +kernel)) ggX7_init_J7_fill_53178
theorem dX7_init_0 : decode cX7_init 0 = .ok (.aload_n 0, 1) := by decide +kernel
theorem dX7_init_1 : decode cX7_init 1 = .ok (.invokespecial 3, 3) := by decide +kernel
theorem dX7_init_4 : decode cX7_init 4 = .ok (.aload_n 0, 1) := by decide +kernel
theorem dX7_init_5 : decode cX7_init 5 = .ok (.new 9, 3) := by decide +kernel
theorem dX7_init_8 : decode cX7_init 8 = .ok (.dup, 1) := by decide +kernel
theorem dX7_init_9 : decode cX7_init 9 = .ok (.invokespecial 11, 3) := by decide +kernel
theorem dX7_init_12 : decode cX7_init 12 = .ok (.putfield 12, 3) := by decide +kernel
theorem dX7_init_15 : decode cX7_init 15 = .ok (.aload_n 0, 1) := by decide +kernel
theorem dX7_init_16 : decode cX7_init 16 = .ok (.new 18, 3) := by decide +kernel
theorem dX7_init_19 : decode cX7_init 19 = .ok (.dup, 1) := by decide +kernel
theorem dX7_init_20 : decode cX7_init 20 = .ok (.invokespecial 20, 3) := by decide +kernel
theorem dX7_init_23 : decode cX7_init 23 = .ok (.putfield 21, 3) := by decide +kernel
theorem dX7_init_26 : decode cX7_init 26 = .ok (.aload_n 0, 1) := by decide +kernel
theorem dX7_init_27 : decode cX7_init 27 = .ok (.bipush 8, 2) := by decide +kernel
theorem dX7_init_29 : decode cX7_init 29 = .ok (.anewarray 25, 3) := by decide +kernel
theorem dX7_init_32 : decode cX7_init 32 = .ok (.putfield 27, 3) := by decide +kernel
theorem dX7_init_35 : decode cX7_init 35 = .ok (.aload_n 0, 1) := by decide +kernel
theorem dX7_init_36 : decode cX7_init 36 = .ok (.bipush 50, 2) := by decide +kernel
theorem dX7_init_38 : decode cX7_init 38 = .ok (.newarray .int, 2) := by decide +kernel
theorem dX7_init_40 : decode cX7_init 40 = .ok (.putfield 31, 3) := by decide +kernel
theorem dX7_init_43 : decode cX7_init 43 = .ok (.aload_n 0, 1) := by decide +kernel
theorem dX7_init_44 : decode cX7_init 44 = .ok (.bipush 6, 2) := by decide +kernel
theorem dX7_init_46 : decode cX7_init 46 = .ok (.newarray .int, 2) := by decide +kernel
theorem dX7_init_48 : decode cX7_init 48 = .ok (.putfield 35, 3) := by decide +kernel
theorem dX7_init_51 : decode cX7_init 51 = .ok (.aload_n 0, 1) := by decide +kernel
theorem dX7_init_52 : decode cX7_init 52 = .ok (.bipush 32, 2) := by decide +kernel
theorem dX7_init_54 : decode cX7_init 54 = .ok (.newarray .int, 2) := by decide +kernel
theorem dX7_init_56 : decode cX7_init 56 = .ok (.putfield 38, 3) := by decide +kernel
theorem dX7_init_59 : decode cX7_init 59 = .ok (.aload_n 0, 1) := by decide +kernel
theorem dX7_init_60 : decode cX7_init 60 = .ok (.bipush 8, 2) := by decide +kernel
theorem dX7_init_62 : decode cX7_init 62 = .ok (.newarray .int, 2) := by decide +kernel
theorem dX7_init_64 : decode cX7_init 64 = .ok (.putfield 41, 3) := by decide +kernel
theorem dX7_init_67 : decode cX7_init 67 = .ok (.aload_n 0, 1) := by decide +kernel
theorem dX7_init_68 : decode cX7_init 68 = .ok (.bipush 8, 2) := by decide +kernel
theorem dX7_init_70 : decode cX7_init 70 = .ok (.newarray .int, 2) := by decide +kernel
theorem dX7_init_72 : decode cX7_init 72 = .ok (.putfield 44, 3) := by decide +kernel
theorem dX7_init_75 : decode cX7_init 75 = .ok (.aload_n 0, 1) := by decide +kernel
theorem dX7_init_76 : decode cX7_init 76 = .ok (.bipush 20, 2) := by decide +kernel
theorem dX7_init_78 : decode cX7_init 78 = .ok (.newarray .int, 2) := by decide +kernel
theorem dX7_init_80 : decode cX7_init 80 = .ok (.putfield 47, 3) := by decide +kernel
theorem dX7_init_83 : decode cX7_init 83 = .ok (.aload_n 0, 1) := by decide +kernel
theorem dX7_init_84 : decode cX7_init 84 = .ok (.iconst 0, 1) := by decide +kernel
theorem dX7_init_85 : decode cX7_init 85 = .ok (.putfield 50, 3) := by decide +kernel
theorem dX7_init_88 : decode cX7_init 88 = .ok (.aload_n 0, 1) := by decide +kernel
theorem dX7_init_89 : decode cX7_init 89 = .ok (.bipush 20, 2) := by decide +kernel
theorem dX7_init_91 : decode cX7_init 91 = .ok (.putfield 54, 3) := by decide +kernel
theorem dX7_init_94 : decode cX7_init 94 = .ok (.aload_n 0, 1) := by decide +kernel
theorem dX7_init_95 : decode cX7_init 95 = .ok (.iconst 2, 1) := by decide +kernel
theorem dX7_init_96 : decode cX7_init 96 = .ok (.putfield 57, 3) := by decide +kernel
theorem dX7_init_99 : decode cX7_init 99 = .ok (.aload_n 0, 1) := by decide +kernel
theorem dX7_init_100 : decode cX7_init 100 = .ok (.iconst 1, 1) := by decide +kernel
theorem dX7_init_101 : decode cX7_init 101 = .ok (.putfield 60, 3) := by decide +kernel
theorem dX7_init_104 : decode cX7_init 104 = .ok (.aload_n 0, 1) := by decide +kernel
theorem dX7_init_105 : decode cX7_init 105 = .ok (.iconst 1, 1) := by decide +kernel
theorem dX7_init_106 : decode cX7_init 106 = .ok (.putfield 63, 3) := by decide +kernel
theorem dX7_init_109 : decode cX7_init 109 = .ok (.aload_n 0, 1) := by decide +kernel
theorem dX7_init_110 : decode cX7_init 110 = .ok (.iconst 0, 1) := by decide +kernel
theorem dX7_init_111 : decode cX7_init 111 = .ok (.putfield 66, 3) := by decide +kernel
theorem dX7_init_114 : decode cX7_init 114 = .ok (.aload_n 0, 1) := by decide +kernel
theorem dX7_init_115 : decode cX7_init 115 = .ok (.iconst 0, 1) := by decide +kernel
theorem dX7_init_116 : decode cX7_init 116 = .ok (.putfield 69, 3) := by decide +kernel
theorem dX7_init_119 : decode cX7_init 119 = .ok (.aload_n 0, 1) := by decide +kernel
theorem dX7_init_120 : decode cX7_init 120 = .ok (.iconst 0, 1) := by decide +kernel
theorem dX7_init_121 : decode cX7_init 121 = .ok (.putfield 72, 3) := by decide +kernel
theorem dX7_init_124 : decode cX7_init 124 = .ok (.iconst 0, 1) := by decide +kernel
theorem dX7_init_125 : decode cX7_init 125 = .ok (.istore_n 1, 1) := by decide +kernel
theorem dX7_init_126 : decode cX7_init 126 = .ok (.iload_n 1, 1) := by decide +kernel
theorem dX7_init_127 : decode cX7_init 127 = .ok (.bipush 8, 2) := by decide +kernel
theorem dX7_init_129 : decode cX7_init 129 = .ok (.if_icmp .ge 22, 3) := by decide +kernel
theorem dX7_init_132 : decode cX7_init 132 = .ok (.aload_n 0, 1) := by decide +kernel
theorem dX7_init_133 : decode cX7_init 133 = .ok (.getfield 27, 3) := by decide +kernel
theorem dX7_init_136 : decode cX7_init 136 = .ok (.iload_n 1, 1) := by decide +kernel
theorem dX7_init_137 : decode cX7_init 137 = .ok (.new 25, 3) := by decide +kernel
theorem dX7_init_140 : decode cX7_init 140 = .ok (.dup, 1) := by decide +kernel
theorem dX7_init_141 : decode cX7_init 141 = .ok (.invokespecial 75, 3) := by decide +kernel
theorem dX7_init_144 : decode cX7_init 144 = .ok (.aastore, 1) := by decide +kernel
theorem dX7_init_145 : decode cX7_init 145 = .ok (.iinc 1 1, 3) := by decide +kernel
theorem dX7_init_148 : decode cX7_init 148 = .ok (.goto (-22), 3) := by decide +kernel
theorem dX7_init_151 : decode cX7_init 151 = .ok (.aload_n 0, 1) := by decide +kernel
theorem dX7_init_152 : decode cX7_init 152 = .ok (.getfield 35, 3) := by decide +kernel
theorem dX7_init_155 : decode cX7_init 155 = .ok (.iconst (-1), 1) := by decide +kernel
theorem dX7_init_156 : decode cX7_init 156 = .ok (.invokestatic 76, 3) := by decide +kernel
theorem dX7_init_159 : decode cX7_init 159 = .ok (.return_, 1) := by decide +kernel
set_option maxRecDepth 20000 in
theorem ggX7_send_X2_years : GoodIn wsX7_send wsX2_years := goodIn_r _ [16, 17, 18, 65, 66, 67] (by decide +kernel) (by decide +kernel)
set_option maxRecDepth 20000 in
theorem gX7_send_X2_years : GoodIn wsX7_send (wsV RX7 89 RX2 yX2_years wsX2_years) := goodIn_app (goodIn_of _ (by decide +kernel)) ggX7_send_X2_years
set_option maxRecDepth 20000 in
theorem ggX7_send_X0_add : GoodIn wsX7_send wsX0_add := goodIn_r _ [23, 24, 25, 26, 27, 28, 29, 30, 31, 32, 33, 34, 35, 22, 36, 37, 38, 39, 5, 6, 7, 40, 41, 42, 43, 44, 45, 46, 47, 68, 69, 70, 71, 72, 73, 74, 75, 76, 77, 78] (by decide +kernel) (by decide +kernel)
set_option maxRecDepth 20000 in
theorem gX7_send_X0_add : GoodIn wsX7_send (wsV RX7 92 RX0 yX0_add wsX0_add) := goodIn_app (goodIn_of _ (by decide +kernel)) ggX7_send_X0_add
theorem dX7_send_0 : decode cX7_send 0 = .ok (.aload_n 0, 1) := by decide +kernel
theorem dX7_send_1 : decode cX7_send 1 = .ok (.aload_n 0, 1) := by decide +kernel
theorem dX7_send_2 : decode cX7_send 2 = .ok (.getfield 63, 3) := by decide +kernel
theorem dX7_send_5 : decode cX7_send 5 = .ok (.ldc 82, 2) := by decide +kernel
theorem dX7_send_7 : decode cX7_send 7 = .ok (.imul, 1) := by decide +kernel
theorem dX7_send_8 : decode cX7_send 8 = .ok (.sipush 12345, 3) := by decide +kernel
theorem dX7_send_11 : decode cX7_send 11 = .ok (.iadd, 1) := by decide +kernel
theorem dX7_send_12 : decode cX7_send 12 = .ok (.putfield 63, 3) := by decide +kernel
theorem dX7_send_15 : decode cX7_send 15 = .ok (.aload_n 0, 1) := by decide +kernel
theorem dX7_send_16 : decode cX7_send 16 = .ok (.getfield 63, 3) := by decide +kernel
theorem dX7_send_19 : decode cX7_send 19 = .ok (.bipush 8, 2) := by decide +kernel
theorem dX7_send_21 : decode cX7_send 21 = .ok (.iushr, 1) := by decide +kernel
theorem dX7_send_22 : decode cX7_send 22 = .ok (.iconst 1, 1) := by decide +kernel
theorem dX7_send_23 : decode cX7_send 23 = .ok (.aload_n 0, 1) := by decide +kernel
theorem dX7_send_24 : decode cX7_send 24 = .ok (.getfield 60, 3) := by decide +kernel
theorem dX7_send_27 : decode cX7_send 27 = .ok (.bipush 10, 2) := by decide +kernel
theorem dX7_send_29 : decode cX7_send 29 = .ok (.irem, 1) := by decide +kernel
theorem dX7_send_30 : decode cX7_send 30 = .ok (.invokestatic 83, 3) := by decide +kernel
theorem dX7_send_33 : decode cX7_send 33 = .ok (.irem, 1) := by decide +kernel
theorem dX7_send_34 : decode cX7_send 34 = .ok (.aload_n 0, 1) := by decide +kernel
theorem dX7_send_35 : decode cX7_send 35 = .ok (.getfield 60, 3) := by decide +kernel
theorem dX7_send_38 : decode cX7_send 38 = .ok (.bipush 10, 2) := by decide +kernel
theorem dX7_send_40 : decode cX7_send 40 = .ok (.idiv, 1) := by decide +kernel
theorem dX7_send_41 : decode cX7_send 41 = .ok (.if_icmp .ge 7, 3) := by decide +kernel
theorem dX7_send_44 : decode cX7_send 44 = .ok (.iconst 1, 1) := by decide +kernel
theorem dX7_send_45 : decode cX7_send 45 = .ok (.goto 4, 3) := by decide +kernel
theorem dX7_send_48 : decode cX7_send 48 = .ok (.iconst 0, 1) := by decide +kernel
theorem dX7_send_49 : decode cX7_send 49 = .ok (.istore 5, 2) := by decide +kernel
theorem dX7_send_51 : decode cX7_send 51 = .ok (.aload_n 0, 1) := by decide +kernel
theorem dX7_send_52 : decode cX7_send 52 = .ok (.getfield 50, 3) := by decide +kernel
theorem dX7_send_55 : decode cX7_send 55 = .ok (.aload_n 0, 1) := by decide +kernel
theorem dX7_send_56 : decode cX7_send 56 = .ok (.getfield 12, 3) := by decide +kernel
theorem dX7_send_59 : decode cX7_send 59 = .ok (.iload_n 2, 1) := by decide +kernel
theorem dX7_send_60 : decode cX7_send 60 = .ok (.iload_n 3, 1) := by decide +kernel
theorem dX7_send_61 : decode cX7_send 61 = .ok (.invokevirtual 89, 3) := by decide +kernel
theorem dX7_send_64 : decode cX7_send 64 = .ok (.iadd, 1) := by decide +kernel
theorem dX7_send_65 : decode cX7_send 65 = .ok (.iload_n 1, 1) := by decide +kernel
theorem dX7_send_66 : decode cX7_send 66 = .ok (.bipush 6, 2) := by decide +kernel
theorem dX7_send_68 : decode cX7_send 68 = .ok (.if_icmp .ne 7, 3) := by decide +kernel
theorem dX7_send_71 : decode cX7_send 71 = .ok (.iconst 2, 1) := by decide +kernel
theorem dX7_send_72 : decode cX7_send 72 = .ok (.goto 4, 3) := by decide +kernel
theorem dX7_send_75 : decode cX7_send 75 = .ok (.iconst 0, 1) := by decide +kernel
theorem dX7_send_76 : decode cX7_send 76 = .ok (.iadd, 1) := by decide +kernel
theorem dX7_send_77 : decode cX7_send 77 = .ok (.istore 6, 2) := by decide +kernel
theorem dX7_send_79 : decode cX7_send 79 = .ok (.aload_n 0, 1) := by decide +kernel
theorem dX7_send_80 : decode cX7_send 80 = .ok (.getfield 21, 3) := by decide +kernel
theorem dX7_send_83 : decode cX7_send 83 = .ok (.iload_n 1, 1) := by decide +kernel
theorem dX7_send_84 : decode cX7_send 84 = .ok (.bipush 10, 2) := by decide +kernel
theorem dX7_send_86 : decode cX7_send 86 = .ok (.iload_n 2, 1) := by decide +kernel
theorem dX7_send_87 : decode cX7_send 87 = .ok (.imul, 1) := by decide +kernel
theorem dX7_send_88 : decode cX7_send 88 = .ok (.iload_n 3, 1) := by decide +kernel
theorem dX7_send_89 : decode cX7_send 89 = .ok (.iadd, 1) := by decide +kernel
theorem dX7_send_90 : decode cX7_send 90 = .ok (.iload 4, 2) := by decide +kernel
theorem dX7_send_92 : decode cX7_send 92 = .ok (.aload_n 0, 1) := by decide +kernel
theorem dX7_send_93 : decode cX7_send 93 = .ok (.getfield 50, 3) := by decide +kernel
theorem dX7_send_96 : decode cX7_send 96 = .ok (.iload 5, 2) := by decide +kernel
theorem dX7_send_98 : decode cX7_send 98 = .ok (.ifCond .eq 7, 3) := by decide +kernel
theorem dX7_send_101 : decode cX7_send 101 = .ok (.iconst (-1), 1) := by decide +kernel
theorem dX7_send_102 : decode cX7_send 102 = .ok (.goto 5, 3) := by decide +kernel
theorem dX7_send_105 : decode cX7_send 105 = .ok (.iload 6, 2) := by decide +kernel
theorem dX7_send_107 : decode cX7_send 107 = .ok (.aload_n 0, 1) := by decide +kernel
theorem dX7_send_108 : decode cX7_send 108 = .ok (.getfield 54, 3) := by decide +kernel
theorem dX7_send_111 : decode cX7_send 111 = .ok (.invokevirtual 92, 3) := by decide +kernel
theorem dX7_send_114 : decode cX7_send 114 = .ok (.ireturn, 1) := by decide +kernel
set_option maxRecDepth 20000 in
theorem ggX7_become_X2_become : GoodIn wsX7_become wsX2_become := goodIn_r _ [28, 29, 30, 31, 8, 9, 10, 32, 77, 78, 79] (by decide +kernel) (by decide +kernel)
set_option maxRecDepth 20000 in
theorem gX7_become_X2_become : GoodIn wsX7_become (wsV RX7 96 RX2 yX2_become wsX2_become) := goodIn_app (goodIn_of _ (by decide +kernel)) ggX7_become_X2_become
set_option maxRecDepth 20000 in
theorem ggX7_become_X0_become : GoodIn wsX7_become wsX0_become := goodIn_r _ [37, 38, 39, 40, 41, 8, 9, 10, 42, 43, 44, 45, 46, 47, 48, 49, 80, 81, 82, 83, 84, 85, 86, 87, 88, 89, 90] (by decide +kernel) (by decide +kernel)
set_option maxRecDepth 20000 in
theorem gX7_become_X0_become : GoodIn wsX7_become (wsV RX7 100 RX0 yX0_become wsX0_become) := goodIn_app (goodIn_of _ (by decide +kernel)) ggX7_become_X0_become
set_option maxRecDepth 20000 in
theorem ggX7_become_X5_become : GoodIn wsX7_become wsX5_become := goodIn_r _ [54, 55, 56, 8, 9, 10, 57, 75, 76] (by decide +kernel) (by decide +kernel)
set_option maxRecDepth 20000 in
theorem gX7_become_X5_become : GoodIn wsX7_become (wsV RX7 109 RX5 yX5_become wsX5_become) := goodIn_app (goodIn_of _ (by decide +kernel)) ggX7_become_X5_become
theorem dX7_become_0 : decode cX7_become 0 = .ok (.aload_n 0, 1) := by decide +kernel
theorem dX7_become_1 : decode cX7_become 1 = .ok (.getfield 12, 3) := by decide +kernel
theorem dX7_become_4 : decode cX7_become 4 = .ok (.aload_n 1, 1) := by decide +kernel
theorem dX7_become_5 : decode cX7_become 5 = .ok (.getfield 12, 3) := by decide +kernel
theorem dX7_become_8 : decode cX7_become 8 = .ok (.invokevirtual 96, 3) := by decide +kernel
theorem dX7_become_11 : decode cX7_become 11 = .ok (.aload_n 0, 1) := by decide +kernel
theorem dX7_become_12 : decode cX7_become 12 = .ok (.getfield 21, 3) := by decide +kernel
theorem dX7_become_15 : decode cX7_become 15 = .ok (.aload_n 1, 1) := by decide +kernel
theorem dX7_become_16 : decode cX7_become 16 = .ok (.getfield 21, 3) := by decide +kernel
theorem dX7_become_19 : decode cX7_become 19 = .ok (.invokevirtual 100, 3) := by decide +kernel
theorem dX7_become_22 : decode cX7_become 22 = .ok (.iconst 0, 1) := by decide +kernel
theorem dX7_become_23 : decode cX7_become 23 = .ok (.istore_n 2, 1) := by decide +kernel
theorem dX7_become_24 : decode cX7_become 24 = .ok (.iload_n 2, 1) := by decide +kernel
theorem dX7_become_25 : decode cX7_become 25 = .ok (.bipush 8, 2) := by decide +kernel
theorem dX7_become_27 : decode cX7_become 27 = .ok (.if_icmp .ge 36, 3) := by decide +kernel
theorem dX7_become_30 : decode cX7_become 30 = .ok (.aload_n 0, 1) := by decide +kernel
theorem dX7_become_31 : decode cX7_become 31 = .ok (.getfield 27, 3) := by decide +kernel
theorem dX7_become_34 : decode cX7_become 34 = .ok (.iload_n 2, 1) := by decide +kernel
theorem dX7_become_35 : decode cX7_become 35 = .ok (.aaload, 1) := by decide +kernel
theorem dX7_become_36 : decode cX7_become 36 = .ok (.aload_n 1, 1) := by decide +kernel
theorem dX7_become_37 : decode cX7_become 37 = .ok (.getfield 27, 3) := by decide +kernel
theorem dX7_become_40 : decode cX7_become 40 = .ok (.iload_n 2, 1) := by decide +kernel
theorem dX7_become_41 : decode cX7_become 41 = .ok (.aaload, 1) := by decide +kernel
theorem dX7_become_42 : decode cX7_become 42 = .ok (.getfield 103, 3) := by decide +kernel
theorem dX7_become_45 : decode cX7_become 45 = .ok (.aload_n 1, 1) := by decide +kernel
theorem dX7_become_46 : decode cX7_become 46 = .ok (.getfield 27, 3) := by decide +kernel
theorem dX7_become_49 : decode cX7_become 49 = .ok (.iload_n 2, 1) := by decide +kernel
theorem dX7_become_50 : decode cX7_become 50 = .ok (.aaload, 1) := by decide +kernel
theorem dX7_become_51 : decode cX7_become 51 = .ok (.getfield 106, 3) := by decide +kernel
theorem dX7_become_54 : decode cX7_become 54 = .ok (.invokevirtual 109, 3) := by decide +kernel
theorem dX7_become_57 : decode cX7_become 57 = .ok (.iinc 2 1, 3) := by decide +kernel
theorem dX7_become_60 : decode cX7_become 60 = .ok (.goto (-36), 3) := by decide +kernel
theorem dX7_become_63 : decode cX7_become 63 = .ok (.aload_n 1, 1) := by decide +kernel
theorem dX7_become_64 : decode cX7_become 64 = .ok (.getfield 31, 3) := by decide +kernel
theorem dX7_become_67 : decode cX7_become 67 = .ok (.iconst 0, 1) := by decide +kernel
theorem dX7_become_68 : decode cX7_become 68 = .ok (.aload_n 0, 1) := by decide +kernel
theorem dX7_become_69 : decode cX7_become 69 = .ok (.getfield 31, 3) := by decide +kernel
theorem dX7_become_72 : decode cX7_become 72 = .ok (.iconst 0, 1) := by decide +kernel
theorem dX7_become_73 : decode cX7_become 73 = .ok (.bipush 50, 2) := by decide +kernel
theorem dX7_become_75 : decode cX7_become 75 = .ok (.invokestatic 111, 3) := by decide +kernel
theorem dX7_become_78 : decode cX7_become 78 = .ok (.aload_n 1, 1) := by decide +kernel
theorem dX7_become_79 : decode cX7_become 79 = .ok (.getfield 35, 3) := by decide +kernel
theorem dX7_become_82 : decode cX7_become 82 = .ok (.iconst 0, 1) := by decide +kernel
theorem dX7_become_83 : decode cX7_become 83 = .ok (.aload_n 0, 1) := by decide +kernel
theorem dX7_become_84 : decode cX7_become 84 = .ok (.getfield 35, 3) := by decide +kernel
theorem dX7_become_87 : decode cX7_become 87 = .ok (.iconst 0, 1) := by decide +kernel
theorem dX7_become_88 : decode cX7_become 88 = .ok (.bipush 6, 2) := by decide +kernel
theorem dX7_become_90 : decode cX7_become 90 = .ok (.invokestatic 111, 3) := by decide +kernel
theorem dX7_become_93 : decode cX7_become 93 = .ok (.aload_n 1, 1) := by decide +kernel
theorem dX7_become_94 : decode cX7_become 94 = .ok (.getfield 38, 3) := by decide +kernel
theorem dX7_become_97 : decode cX7_become 97 = .ok (.iconst 0, 1) := by decide +kernel
theorem dX7_become_98 : decode cX7_become 98 = .ok (.aload_n 0, 1) := by decide +kernel
theorem dX7_become_99 : decode cX7_become 99 = .ok (.getfield 38, 3) := by decide +kernel
theorem dX7_become_102 : decode cX7_become 102 = .ok (.iconst 0, 1) := by decide +kernel
theorem dX7_become_103 : decode cX7_become 103 = .ok (.bipush 32, 2) := by decide +kernel
theorem dX7_become_105 : decode cX7_become 105 = .ok (.invokestatic 111, 3) := by decide +kernel
theorem dX7_become_108 : decode cX7_become 108 = .ok (.aload_n 1, 1) := by decide +kernel
theorem dX7_become_109 : decode cX7_become 109 = .ok (.getfield 41, 3) := by decide +kernel
theorem dX7_become_112 : decode cX7_become 112 = .ok (.iconst 0, 1) := by decide +kernel
theorem dX7_become_113 : decode cX7_become 113 = .ok (.aload_n 0, 1) := by decide +kernel
theorem dX7_become_114 : decode cX7_become 114 = .ok (.getfield 41, 3) := by decide +kernel
theorem dX7_become_117 : decode cX7_become 117 = .ok (.iconst 0, 1) := by decide +kernel
theorem dX7_become_118 : decode cX7_become 118 = .ok (.bipush 8, 2) := by decide +kernel
theorem dX7_become_120 : decode cX7_become 120 = .ok (.invokestatic 111, 3) := by decide +kernel
theorem dX7_become_123 : decode cX7_become 123 = .ok (.aload_n 1, 1) := by decide +kernel
theorem dX7_become_124 : decode cX7_become 124 = .ok (.getfield 44, 3) := by decide +kernel
theorem dX7_become_127 : decode cX7_become 127 = .ok (.iconst 0, 1) := by decide +kernel
theorem dX7_become_128 : decode cX7_become 128 = .ok (.aload_n 0, 1) := by decide +kernel
theorem dX7_become_129 : decode cX7_become 129 = .ok (.getfield 44, 3) := by decide +kernel
theorem dX7_become_132 : decode cX7_become 132 = .ok (.iconst 0, 1) := by decide +kernel
theorem dX7_become_133 : decode cX7_become 133 = .ok (.bipush 8, 2) := by decide +kernel
theorem dX7_become_135 : decode cX7_become 135 = .ok (.invokestatic 111, 3) := by decide +kernel
theorem dX7_become_138 : decode cX7_become 138 = .ok (.aload_n 1, 1) := by decide +kernel
theorem dX7_become_139 : decode cX7_become 139 = .ok (.getfield 47, 3) := by decide +kernel
theorem dX7_become_142 : decode cX7_become 142 = .ok (.iconst 0, 1) := by decide +kernel
theorem dX7_become_143 : decode cX7_become 143 = .ok (.aload_n 0, 1) := by decide +kernel
theorem dX7_become_144 : decode cX7_become 144 = .ok (.getfield 47, 3) := by decide +kernel
theorem dX7_become_147 : decode cX7_become 147 = .ok (.iconst 0, 1) := by decide +kernel
theorem dX7_become_148 : decode cX7_become 148 = .ok (.bipush 20, 2) := by decide +kernel
theorem dX7_become_150 : decode cX7_become 150 = .ok (.invokestatic 111, 3) := by decide +kernel
theorem dX7_become_153 : decode cX7_become 153 = .ok (.aload_n 0, 1) := by decide +kernel
theorem dX7_become_154 : decode cX7_become 154 = .ok (.aload_n 1, 1) := by decide +kernel
theorem dX7_become_155 : decode cX7_become 155 = .ok (.getfield 50, 3) := by decide +kernel
theorem dX7_become_158 : decode cX7_become 158 = .ok (.putfield 50, 3) := by decide +kernel
theorem dX7_become_161 : decode cX7_become 161 = .ok (.aload_n 0, 1) := by decide +kernel
theorem dX7_become_162 : decode cX7_become 162 = .ok (.aload_n 1, 1) := by decide +kernel
theorem dX7_become_163 : decode cX7_become 163 = .ok (.getfield 54, 3) := by decide +kernel
theorem dX7_become_166 : decode cX7_become 166 = .ok (.putfield 54, 3) := by decide +kernel
theorem dX7_become_169 : decode cX7_become 169 = .ok (.aload_n 0, 1) := by decide +kernel
theorem dX7_become_170 : decode cX7_become 170 = .ok (.aload_n 1, 1) := by decide +kernel
theorem dX7_become_171 : decode cX7_become 171 = .ok (.getfield 57, 3) := by decide +kernel
theorem dX7_become_174 : decode cX7_become 174 = .ok (.putfield 57, 3) := by decide +kernel
theorem dX7_become_177 : decode cX7_become 177 = .ok (.aload_n 0, 1) := by decide +kernel
theorem dX7_become_178 : decode cX7_become 178 = .ok (.aload_n 1, 1) := by decide +kernel
theorem dX7_become_179 : decode cX7_become 179 = .ok (.getfield 60, 3) := by decide +kernel
theorem dX7_become_182 : decode cX7_become 182 = .ok (.putfield 60, 3) := by decide +kernel
theorem dX7_become_185 : decode cX7_become 185 = .ok (.aload_n 0, 1) := by decide +kernel
theorem dX7_become_186 : decode cX7_become 186 = .ok (.aload_n 1, 1) := by decide +kernel
theorem dX7_become_187 : decode cX7_become 187 = .ok (.getfield 63, 3) := by decide +kernel
theorem dX7_become_190 : decode cX7_become 190 = .ok (.putfield 63, 3) := by decide +kernel
theorem dX7_become_193 : decode cX7_become 193 = .ok (.aload_n 0, 1) := by decide +kernel
theorem dX7_become_194 : decode cX7_become 194 = .ok (.aload_n 1, 1) := by decide +kernel
theorem dX7_become_195 : decode cX7_become 195 = .ok (.getfield 66, 3) := by decide +kernel
theorem dX7_become_198 : decode cX7_become 198 = .ok (.putfield 66, 3) := by decide +kernel
theorem dX7_become_201 : decode cX7_become 201 = .ok (.aload_n 0, 1) := by decide +kernel
theorem dX7_become_202 : decode cX7_become 202 = .ok (.aload_n 1, 1) := by decide +kernel
theorem dX7_become_203 : decode cX7_become 203 = .ok (.getfield 69, 3) := by decide +kernel
theorem dX7_become_206 : decode cX7_become 206 = .ok (.putfield 69, 3) := by decide +kernel
theorem dX7_become_209 : decode cX7_become 209 = .ok (.aload_n 0, 1) := by decide +kernel
theorem dX7_become_210 : decode cX7_become 210 = .ok (.aload_n 1, 1) := by decide +kernel
theorem dX7_become_211 : decode cX7_become 211 = .ok (.getfield 72, 3) := by decide +kernel
theorem dX7_become_214 : decode cX7_become 214 = .ok (.putfield 72, 3) := by decide +kernel
theorem dX7_become_217 : decode cX7_become 217 = .ok (.return_, 1) := by decide +kernel
set_option maxRecDepth 20000 in
theorem ggX8_init_X7_init : GoodIn wsX8_init wsX7_init := goodIn_r _ [34, 35, 2, 3, 36, 37, 38, 39, 40, 41, 42, 43, 44, 45, 4, 46, 47, 48, 49, 50, 51, 52, 53, 54, 55, 56, 57, 58, 59, 60, 61, 62, 63, 64, 65, 66, 67, 68, 69, 70, 71, 72, 73, 74, 75, 76, 77, 78, 79, 80, 81, 82, 83, 84, 85, 86, 87, 88, 89, 90, 91, 92, 93, 94, 95, 96, 97, 98, 99, 100, 101, 102, 103, 104, 182, 183, 184, 143, 144, 145, 146, 147, 148, 149, 150, 151, 152, 153, 154, 155, 156, 157, 158, 159, 185, 186, 187, 188, 189, 190, 191, 192, 193, 194, 195, 196, 197] (by decide +kernel) (by decide +kernel)
set_option maxRecDepth 20000 in
theorem gX8_init_X7_init : GoodIn wsX8_init (wsX7_init) := ggX8_init_X7_init
set_option maxRecDepth 20000 in
theorem ggX8_init_X4_init : GoodIn wsX8_init wsX4_init := goodIn_r _ [107, 108, 2, 3, 109, 4, 110, 160, 161, 162, 163, 164, 165, 166, 167] (by decide +kernel) (by decide +kernel)
set_option maxRecDepth 20000 in
theorem gX8_init_X4_init : GoodIn wsX8_init (wsX4_init) := ggX8_init_X4_init
set_option maxRecDepth 20000 in
theorem ggX8_init_X1_init : GoodIn wsX8_init wsX1_init := goodIn_r _ [113, 114, 2, 3, 4, 115, 116, 117, 168, 169, 170, 171, 172, 173] (by decide +kernel) (by decide +kernel)
set_option maxRecDepth 20000 in
theorem gX8_init_X1_init : GoodIn wsX8_init (wsX1_init) := ggX8_init_X1_init
set_option maxRecDepth 20000 in
theorem ggX8_init_X6_init : GoodIn wsX8_init wsX6_init := goodIn_r _ [119, 120, 2, 3, 4, 121, 122, 123, 124, 125, 174, 175, 176, 177, 178] (by decide +kernel) (by decide +kernel)
set_option maxRecDepth 20000 in
theorem gX8_init_X6_init_n58 : GoodIn wsX8_init (wsX6_init) := ggX8_init_X6_init
set_option maxRecDepth 20000 in
theorem ggX8_init_X3_init : GoodIn wsX8_init wsX3_init := goodIn_r _ [127, 128, 2, 3, 129, 130, 4, 131, 179, 180, 181] (by decide +kernel) (by decide +kernel)
set_option maxRecDepth 20000 in
theorem gX8_init_X3_init_n69 : GoodIn wsX8_init (wsX3_init) := ggX8_init_X3_init
theorem dX8_init_0 : decode cX8_init 0 = .ok (.aload_n 0, 1) := by decide +kernel
theorem dX8_init_1 : decode cX8_init 1 = .ok (.invokespecial 1, 3) := by decide +kernel
theorem dX8_init_4 : decode cX8_init 4 = .ok (.aload_n 0, 1) := by decide +kernel
theorem dX8_init_5 : decode cX8_init 5 = .ok (.bipush 6, 2) := by decide +kernel
theorem dX8_init_7 : decode cX8_init 7 = .ok (.newarray .int, 2) := by decide +kernel
theorem dX8_init_9 : decode cX8_init 9 = .ok (.putfield 9, 3) := by decide +kernel
theorem dX8_init_12 : decode cX8_init 12 = .ok (.aload_n 0, 1) := by decide +kernel
theorem dX8_init_13 : decode cX8_init 13 = .ok (.new 13, 3) := by decide +kernel
theorem dX8_init_16 : decode cX8_init 16 = .ok (.dup, 1) := by decide +kernel
theorem dX8_init_17 : decode cX8_init 17 = .ok (.invokespecial 15, 3) := by decide +kernel
theorem dX8_init_20 : decode cX8_init 20 = .ok (.putfield 16, 3) := by decide +kernel
theorem dX8_init_23 : decode cX8_init 23 = .ok (.aload_n 0, 1) := by decide +kernel
theorem dX8_init_24 : decode cX8_init 24 = .ok (.new 13, 3) := by decide +kernel
theorem dX8_init_27 : decode cX8_init 27 = .ok (.dup, 1) := by decide +kernel
theorem dX8_init_28 : decode cX8_init 28 = .ok (.invokespecial 15, 3) := by decide +kernel
theorem dX8_init_31 : decode cX8_init 31 = .ok (.putfield 20, 3) := by decide +kernel
theorem dX8_init_34 : decode cX8_init 34 = .ok (.aload_n 0, 1) := by decide +kernel
theorem dX8_init_35 : decode cX8_init 35 = .ok (.iconst 0, 1) := by decide +kernel
theorem dX8_init_36 : decode cX8_init 36 = .ok (.putfield 23, 3) := by decide +kernel
theorem dX8_init_39 : decode cX8_init 39 = .ok (.aload_n 0, 1) := by decide +kernel
theorem dX8_init_40 : decode cX8_init 40 = .ok (.new 27, 3) := by decide +kernel
theorem dX8_init_43 : decode cX8_init 43 = .ok (.dup, 1) := by decide +kernel
theorem dX8_init_44 : decode cX8_init 44 = .ok (.aload_n 0, 1) := by decide +kernel
theorem dX8_init_45 : decode cX8_init 45 = .ok (.getfield 16, 3) := by decide +kernel
theorem dX8_init_48 : decode cX8_init 48 = .ok (.getfield 29, 3) := by decide +kernel
theorem dX8_init_51 : decode cX8_init 51 = .ok (.invokespecial 33, 3) := by decide +kernel
theorem dX8_init_54 : decode cX8_init 54 = .ok (.putfield 36, 3) := by decide +kernel
theorem dX8_init_57 : decode cX8_init 57 = .ok (.aload_n 0, 1) := by decide +kernel
theorem dX8_init_58 : decode cX8_init 58 = .ok (.new 27, 3) := by decide +kernel
theorem dX8_init_61 : decode cX8_init 61 = .ok (.dup, 1) := by decide +kernel
theorem dX8_init_62 : decode cX8_init 62 = .ok (.aload_n 0, 1) := by decide +kernel
theorem dX8_init_63 : decode cX8_init 63 = .ok (.getfield 16, 3) := by decide +kernel
theorem dX8_init_66 : decode cX8_init 66 = .ok (.getfield 29, 3) := by decide +kernel
theorem dX8_init_69 : decode cX8_init 69 = .ok (.invokespecial 33, 3) := by decide +kernel
theorem dX8_init_72 : decode cX8_init 72 = .ok (.putfield 40, 3) := by decide +kernel
theorem dX8_init_75 : decode cX8_init 75 = .ok (.aload_n 0, 1) := by decide +kernel
theorem dX8_init_76 : decode cX8_init 76 = .ok (.new 43, 3) := by decide +kernel
theorem dX8_init_79 : decode cX8_init 79 = .ok (.dup, 1) := by decide +kernel
theorem dX8_init_80 : decode cX8_init 80 = .ok (.invokespecial 45, 3) := by decide +kernel
theorem dX8_init_83 : decode cX8_init 83 = .ok (.putfield 46, 3) := by decide +kernel
theorem dX8_init_86 : decode cX8_init 86 = .ok (.aload_n 0, 1) := by decide +kernel
theorem dX8_init_87 : decode cX8_init 87 = .ok (.iconst 5, 1) := by decide +kernel
theorem dX8_init_88 : decode cX8_init 88 = .ok (.newarray .int, 2) := by decide +kernel
theorem dX8_init_90 : decode cX8_init 90 = .ok (.putfield 50, 3) := by decide +kernel
theorem dX8_init_93 : decode cX8_init 93 = .ok (.aload_n 0, 1) := by decide +kernel
theorem dX8_init_94 : decode cX8_init 94 = .ok (.bipush 50, 2) := by decide +kernel
theorem dX8_init_96 : decode cX8_init 96 = .ok (.newarray .int, 2) := by decide +kernel
theorem dX8_init_98 : decode cX8_init 98 = .ok (.putfield 53, 3) := by decide +kernel
theorem dX8_init_101 : decode cX8_init 101 = .ok (.aload_n 0, 1) := by decide +kernel
theorem dX8_init_102 : decode cX8_init 102 = .ok (.new 56, 3) := by decide +kernel
theorem dX8_init_105 : decode cX8_init 105 = .ok (.dup, 1) := by decide +kernel
theorem dX8_init_106 : decode cX8_init 106 = .ok (.invokespecial 58, 3) := by decide +kernel
theorem dX8_init_109 : decode cX8_init 109 = .ok (.putfield 59, 3) := by decide +kernel
theorem dX8_init_112 : decode cX8_init 112 = .ok (.aload_n 0, 1) := by decide +kernel
theorem dX8_init_113 : decode cX8_init 113 = .ok (.iconst 4, 1) := by decide +kernel
theorem dX8_init_114 : decode cX8_init 114 = .ok (.anewarray 63, 3) := by decide +kernel
theorem dX8_init_117 : decode cX8_init 117 = .ok (.putfield 65, 3) := by decide +kernel
theorem dX8_init_120 : decode cX8_init 120 = .ok (.iconst 0, 1) := by decide +kernel
theorem dX8_init_121 : decode cX8_init 121 = .ok (.istore_n 1, 1) := by decide +kernel
theorem dX8_init_122 : decode cX8_init 122 = .ok (.iload_n 1, 1) := by decide +kernel
theorem dX8_init_123 : decode cX8_init 123 = .ok (.iconst 4, 1) := by decide +kernel
theorem dX8_init_124 : decode cX8_init 124 = .ok (.if_icmp .ge 22, 3) := by decide +kernel
theorem dX8_init_127 : decode cX8_init 127 = .ok (.aload_n 0, 1) := by decide +kernel
theorem dX8_init_128 : decode cX8_init 128 = .ok (.getfield 65, 3) := by decide +kernel
theorem dX8_init_131 : decode cX8_init 131 = .ok (.iload_n 1, 1) := by decide +kernel
theorem dX8_init_132 : decode cX8_init 132 = .ok (.new 63, 3) := by decide +kernel
theorem dX8_init_135 : decode cX8_init 135 = .ok (.dup, 1) := by decide +kernel
theorem dX8_init_136 : decode cX8_init 136 = .ok (.invokespecial 69, 3) := by decide +kernel
theorem dX8_init_139 : decode cX8_init 139 = .ok (.aastore, 1) := by decide +kernel
theorem dX8_init_140 : decode cX8_init 140 = .ok (.iinc 1 1, 3) := by decide +kernel
theorem dX8_init_143 : decode cX8_init 143 = .ok (.goto (-21), 3) := by decide +kernel
theorem dX8_init_146 : decode cX8_init 146 = .ok (.return_, 1) := by decide +kernel
set_option maxRecDepth 20000 in
theorem ggX8_place_X8_refuse : GoodIn wsX8_place wsX8_refuse := goodIn_r _ [8, 9, 10, 11, 12, 13, 14, 15, 16, 17, 18, 19, 20, 21] (by decide +kernel) (by decide +kernel)
set_option maxRecDepth 20000 in
theorem gX8_place_X8_refuse : GoodIn wsX8_place (wsV RX8 79 RX8 yX8_refuse wsX8_refuse) := goodIn_app (goodIn_of _ (by decide +kernel)) ggX8_place_X8_refuse
theorem dX8_place_0 : decode cX8_place 0 = .ok (.aload_n 0, 1) := by decide +kernel
theorem dX8_place_1 : decode cX8_place 1 = .ok (.getfield 16, 3) := by decide +kernel
theorem dX8_place_4 : decode cX8_place 4 = .ok (.getfield 70, 3) := by decide +kernel
theorem dX8_place_7 : decode cX8_place 7 = .ok (.astore_n 1, 1) := by decide +kernel
theorem dX8_place_8 : decode cX8_place 8 = .ok (.aload_n 1, 1) := by decide +kernel
theorem dX8_place_9 : decode cX8_place 9 = .ok (.getfield 74, 3) := by decide +kernel
theorem dX8_place_12 : decode cX8_place 12 = .ok (.bipush 6, 2) := by decide +kernel
theorem dX8_place_14 : decode cX8_place 14 = .ok (.if_icmp .lt 9, 3) := by decide +kernel
theorem dX8_place_17 : decode cX8_place 17 = .ok (.aload_n 0, 1) := by decide +kernel
theorem dX8_place_18 : decode cX8_place 18 = .ok (.iconst 4, 1) := by decide +kernel
theorem dX8_place_19 : decode cX8_place 19 = .ok (.invokevirtual 79, 3) := by decide +kernel
theorem dX8_place_22 : decode cX8_place 22 = .ok (.ireturn, 1) := by decide +kernel
theorem dX8_place_23 : decode cX8_place 23 = .ok (.aload_n 1, 1) := by decide +kernel
theorem dX8_place_24 : decode cX8_place 24 = .ok (.dup, 1) := by decide +kernel
theorem dX8_place_25 : decode cX8_place 25 = .ok (.getfield 74, 3) := by decide +kernel
theorem dX8_place_28 : decode cX8_place 28 = .ok (.iconst 1, 1) := by decide +kernel
theorem dX8_place_29 : decode cX8_place 29 = .ok (.iadd, 1) := by decide +kernel
theorem dX8_place_30 : decode cX8_place 30 = .ok (.putfield 74, 3) := by decide +kernel
theorem dX8_place_33 : decode cX8_place 33 = .ok (.aload_n 1, 1) := by decide +kernel
theorem dX8_place_34 : decode cX8_place 34 = .ok (.getfield 74, 3) := by decide +kernel
theorem dX8_place_37 : decode cX8_place 37 = .ok (.iconst 1, 1) := by decide +kernel
theorem dX8_place_38 : decode cX8_place 38 = .ok (.isub, 1) := by decide +kernel
theorem dX8_place_39 : decode cX8_place 39 = .ok (.ireturn, 1) := by decide +kernel
set_option maxRecDepth 20000 in
theorem ggX8_near_X8_areTwo : GoodIn wsX8_near wsX8_areTwo := goodIn_r _ [7, 8, 9, 10, 6, 11, 1, 2, 12, 13, 14, 15, 42, 43, 44, 45, 46, 47, 48, 49, 50, 51, 52, 53, 54, 55, 56, 57, 58, 59, 60, 61, 62, 63, 64, 65, 66, 67, 68, 69, 70, 71, 72] (by decide +kernel) (by decide +kernel)
set_option maxRecDepth 20000 in
theorem gX8_near_X8_areTwo : GoodIn wsX8_near (wsV RX8 83 RX8 yX8_areTwo wsX8_areTwo) := goodIn_app (goodIn_of _ (by decide +kernel)) ggX8_near_X8_areTwo
set_option maxRecDepth 20000 in
theorem ggX8_near_X8_isOutside : GoodIn wsX8_near wsX8_isOutside := goodIn_r _ [15] (by decide +kernel) (by decide +kernel)
set_option maxRecDepth 20000 in
theorem gX8_near_X8_isOutside : GoodIn wsX8_near (va_wsS RX8 87 yX8_isOutside wsX8_isOutside) := goodIn_app (goodIn_of _ (by decide +kernel)) ggX8_near_X8_isOutside
set_option maxRecDepth 20000 in
theorem ggX8_near_X8_refuse : GoodIn wsX8_near wsX8_refuse := goodIn_r _ [19, 20, 21, 42, 43, 44, 45, 46, 47, 48, 49, 50, 51, 52] (by decide +kernel) (by decide +kernel)
set_option maxRecDepth 20000 in
theorem gX8_near_X8_refuse : GoodIn wsX8_near (wsV RX8 79 RX8 yX8_refuse wsX8_refuse) := goodIn_app (goodIn_of _ (by decide +kernel)) ggX8_near_X8_refuse
set_option maxRecDepth 20000 in
theorem ggX8_near_X2_join : GoodIn wsX8_near wsX2_join := goodIn_r _ [26, 27, 28, 29, 30, 25, 31, 32, 33, 34, 35, 36, 37, 38, 39, 40, 41, 70, 71, 72] (by decide +kernel) (by decide +kernel)
set_option maxRecDepth 20000 in
theorem gX8_near_X2_join : GoodIn wsX8_near (wsV RX8 91 RX2 yX2_join wsX2_join) := goodIn_app (goodIn_of _ (by decide +kernel)) ggX8_near_X2_join
theorem dX8_near_0 : decode cX8_near 0 = .ok (.aload_n 0, 1) := by decide +kernel
theorem dX8_near_1 : decode cX8_near 1 = .ok (.iload_n 1, 1) := by decide +kernel
theorem dX8_near_2 : decode cX8_near 2 = .ok (.iload_n 2, 1) := by decide +kernel
theorem dX8_near_3 : decode cX8_near 3 = .ok (.invokevirtual 83, 3) := by decide +kernel
theorem dX8_near_6 : decode cX8_near 6 = .ok (.ifCond .eq 13, 3) := by decide +kernel
theorem dX8_near_9 : decode cX8_near 9 = .ok (.iload_n 3, 1) := by decide +kernel
theorem dX8_near_10 : decode cX8_near 10 = .ok (.iconst 0, 1) := by decide +kernel
theorem dX8_near_11 : decode cX8_near 11 = .ok (.bipush 30, 2) := by decide +kernel
theorem dX8_near_13 : decode cX8_near 13 = .ok (.invokestatic 87, 3) := by decide +kernel
theorem dX8_near_16 : decode cX8_near 16 = .ok (.ifCond .eq 9, 3) := by decide +kernel
theorem dX8_near_19 : decode cX8_near 19 = .ok (.aload_n 0, 1) := by decide +kernel
theorem dX8_near_20 : decode cX8_near 20 = .ok (.iconst 1, 1) := by decide +kernel
theorem dX8_near_21 : decode cX8_near 21 = .ok (.invokevirtual 79, 3) := by decide +kernel
theorem dX8_near_24 : decode cX8_near 24 = .ok (.ireturn, 1) := by decide +kernel
theorem dX8_near_25 : decode cX8_near 25 = .ok (.aload_n 0, 1) := by decide +kernel
theorem dX8_near_26 : decode cX8_near 26 = .ok (.getfield 16, 3) := by decide +kernel
theorem dX8_near_29 : decode cX8_near 29 = .ok (.getfield 70, 3) := by decide +kernel
theorem dX8_near_32 : decode cX8_near 32 = .ok (.iload_n 1, 1) := by decide +kernel
theorem dX8_near_33 : decode cX8_near 33 = .ok (.iload_n 2, 1) := by decide +kernel
theorem dX8_near_34 : decode cX8_near 34 = .ok (.iload_n 3, 1) := by decide +kernel
theorem dX8_near_35 : decode cX8_near 35 = .ok (.invokevirtual 91, 3) := by decide +kernel
theorem dX8_near_38 : decode cX8_near 38 = .ok (.ireturn, 1) := by decide +kernel
set_option maxRecDepth 20000 in
theorem ggX8_way_X8_isPlace : GoodIn wsX8_way wsX8_isPlace := goodIn_r _ [7, 1, 2, 8, 9, 10, 6, 11, 25, 26, 27, 28, 29, 30, 31, 32, 33, 34, 35, 36, 37, 38, 39, 40, 41, 42, 43, 44, 45, 46, 47, 48, 49, 50, 51, 52, 53, 54, 55] (by decide +kernel) (by decide +kernel)
set_option maxRecDepth 20000 in
theorem gX8_way_X8_isPlace : GoodIn wsX8_way (wsV RX8 95 RX8 yX8_isPlace wsX8_isPlace) := goodIn_app (goodIn_of _ (by decide +kernel)) ggX8_way_X8_isPlace
set_option maxRecDepth 20000 in
theorem ggX8_way_X8_refuse : GoodIn wsX8_way wsX8_refuse := goodIn_r _ [15, 16, 17, 25, 26, 27, 28, 29, 30, 31, 32, 33, 34, 35] (by decide +kernel) (by decide +kernel)
set_option maxRecDepth 20000 in
theorem gX8_way_X8_refuse : GoodIn wsX8_way (wsV RX8 79 RX8 yX8_refuse wsX8_refuse) := goodIn_app (goodIn_of _ (by decide +kernel)) ggX8_way_X8_refuse
set_option maxRecDepth 20000 in
theorem ggX8_way_X2_years : GoodIn wsX8_way wsX2_years := goodIn_r _ [22, 23, 24, 53, 54, 55] (by decide +kernel) (by decide +kernel)
set_option maxRecDepth 20000 in
theorem gX8_way_X2_years : GoodIn wsX8_way (wsV RX8 99 RX2 yX2_years wsX2_years) := goodIn_app (goodIn_of _ (by decide +kernel)) ggX8_way_X2_years
theorem dX8_way_0 : decode cX8_way 0 = .ok (.aload_n 0, 1) := by decide +kernel
theorem dX8_way_1 : decode cX8_way 1 = .ok (.iload_n 1, 1) := by decide +kernel
theorem dX8_way_2 : decode cX8_way 2 = .ok (.invokevirtual 95, 3) := by decide +kernel
theorem dX8_way_5 : decode cX8_way 5 = .ok (.ifCond .eq 11, 3) := by decide +kernel
theorem dX8_way_8 : decode cX8_way 8 = .ok (.aload_n 0, 1) := by decide +kernel
theorem dX8_way_9 : decode cX8_way 9 = .ok (.iload_n 2, 1) := by decide +kernel
theorem dX8_way_10 : decode cX8_way 10 = .ok (.invokevirtual 95, 3) := by decide +kernel
theorem dX8_way_13 : decode cX8_way 13 = .ok (.ifCond .ne 9, 3) := by decide +kernel
theorem dX8_way_16 : decode cX8_way 16 = .ok (.aload_n 0, 1) := by decide +kernel
theorem dX8_way_17 : decode cX8_way 17 = .ok (.iconst 1, 1) := by decide +kernel
theorem dX8_way_18 : decode cX8_way 18 = .ok (.invokevirtual 79, 3) := by decide +kernel
theorem dX8_way_21 : decode cX8_way 21 = .ok (.ireturn, 1) := by decide +kernel
theorem dX8_way_22 : decode cX8_way 22 = .ok (.aload_n 0, 1) := by decide +kernel
theorem dX8_way_23 : decode cX8_way 23 = .ok (.getfield 16, 3) := by decide +kernel
theorem dX8_way_26 : decode cX8_way 26 = .ok (.getfield 70, 3) := by decide +kernel
theorem dX8_way_29 : decode cX8_way 29 = .ok (.iload_n 1, 1) := by decide +kernel
theorem dX8_way_30 : decode cX8_way 30 = .ok (.iload_n 2, 1) := by decide +kernel
theorem dX8_way_31 : decode cX8_way 31 = .ok (.invokevirtual 99, 3) := by decide +kernel
theorem dX8_way_34 : decode cX8_way 34 = .ok (.istore_n 3, 1) := by decide +kernel
theorem dX8_way_35 : decode cX8_way 35 = .ok (.iload_n 3, 1) := by decide +kernel
theorem dX8_way_36 : decode cX8_way 36 = .ok (.ifCond .ge 11, 3) := by decide +kernel
theorem dX8_way_39 : decode cX8_way 39 = .ok (.aload_n 0, 1) := by decide +kernel
theorem dX8_way_40 : decode cX8_way 40 = .ok (.iconst 2, 1) := by decide +kernel
theorem dX8_way_41 : decode cX8_way 41 = .ok (.invokevirtual 79, 3) := by decide +kernel
theorem dX8_way_44 : decode cX8_way 44 = .ok (.goto 4, 3) := by decide +kernel
theorem dX8_way_47 : decode cX8_way 47 = .ok (.iload_n 3, 1) := by decide +kernel
theorem dX8_way_48 : decode cX8_way 48 = .ok (.ireturn, 1) := by decide +kernel
set_option maxRecDepth 20000 in
theorem ggX8_route_X8_isPlace : GoodIn wsX8_route wsX8_isPlace := goodIn_r _ [7, 1, 2, 8, 9, 10, 6, 11, 42, 43, 44, 45, 46, 47, 48, 49, 50, 51, 52, 53, 54, 55, 56, 57, 58, 59, 60, 61, 62, 63, 64, 65, 66, 67, 68, 69, 70, 71, 72] (by decide +kernel) (by decide +kernel)
set_option maxRecDepth 20000 in
theorem gX8_route_X8_isPlace : GoodIn wsX8_route (wsV RX8 95 RX8 yX8_isPlace wsX8_isPlace) := goodIn_app (goodIn_of _ (by decide +kernel)) ggX8_route_X8_isPlace
set_option maxRecDepth 20000 in
theorem ggX8_route_X8_refuse : GoodIn wsX8_route wsX8_refuse := goodIn_r _ [15, 16, 17, 42, 43, 44, 45, 46, 47, 48, 49, 50, 51, 52] (by decide +kernel) (by decide +kernel)
set_option maxRecDepth 20000 in
theorem gX8_route_X8_refuse : GoodIn wsX8_route (wsV RX8 79 RX8 yX8_refuse wsX8_refuse) := goodIn_app (goodIn_of _ (by decide +kernel)) ggX8_route_X8_refuse
set_option maxRecDepth 20000 in
theorem ggX8_route_X2_years : GoodIn wsX8_route wsX2_years := goodIn_r _ [22, 23, 24, 70, 71, 72] (by decide +kernel) (by decide +kernel)
set_option maxRecDepth 20000 in
theorem gX8_route_X2_years : GoodIn wsX8_route (wsV RX8 99 RX2 yX2_years wsX2_years) := goodIn_app (goodIn_of _ (by decide +kernel)) ggX8_route_X2_years
set_option maxRecDepth 20000 in
theorem ggX8_route_X2_stops : GoodIn wsX8_route wsX2_stops := goodIn_r _ [28, 23, 70, 71, 72] (by decide +kernel) (by decide +kernel)
set_option maxRecDepth 20000 in
theorem gX8_route_X2_stops : GoodIn wsX8_route (wsV RX8 103 RX2 yX2_stops wsX2_stops) := goodIn_app (goodIn_of _ (by decide +kernel)) ggX8_route_X2_stops
set_option maxRecDepth 20000 in
theorem ggX8_route_X2_stop : GoodIn wsX8_route wsX2_stop := goodIn_r _ [32, 33, 34, 35, 21, 36, 23, 37, 38, 39, 40, 41, 24, 70, 71, 72] (by decide +kernel) (by decide +kernel)
set_option maxRecDepth 20000 in
theorem gX8_route_X2_stop : GoodIn wsX8_route (wsV RX8 106 RX2 yX2_stop wsX2_stop) := goodIn_app (goodIn_of _ (by decide +kernel)) ggX8_route_X2_stop
theorem dX8_route_0 : decode cX8_route 0 = .ok (.aload_n 0, 1) := by decide +kernel
theorem dX8_route_1 : decode cX8_route 1 = .ok (.iload_n 1, 1) := by decide +kernel
theorem dX8_route_2 : decode cX8_route 2 = .ok (.invokevirtual 95, 3) := by decide +kernel
theorem dX8_route_5 : decode cX8_route 5 = .ok (.ifCond .eq 16, 3) := by decide +kernel
theorem dX8_route_8 : decode cX8_route 8 = .ok (.aload_n 0, 1) := by decide +kernel
theorem dX8_route_9 : decode cX8_route 9 = .ok (.iload_n 2, 1) := by decide +kernel
theorem dX8_route_10 : decode cX8_route 10 = .ok (.invokevirtual 95, 3) := by decide +kernel
theorem dX8_route_13 : decode cX8_route 13 = .ok (.ifCond .eq 8, 3) := by decide +kernel
