theorem dX6_move_0 : decode cX6_move 0 = .ok (.aload_n 0, 1) := by decide +kernel
theorem dX6_move_1 : decode cX6_move 1 = .ok (.getfield 16, 3) := by decide +kernel
theorem dX6_move_4 : decode cX6_move 4 = .ok (.iload_n 1, 1) := by decide +kernel
theorem dX6_move_5 : decode cX6_move 5 = .ok (.bipush 16, 2) := by decide +kernel
theorem dX6_move_7 : decode cX6_move 7 = .ok (.ishr, 1) := by decide +kernel
theorem dX6_move_8 : decode cX6_move 8 = .ok (.bipush 7, 2) := by decide +kernel
theorem dX6_move_10 : decode cX6_move 10 = .ok (.iand, 1) := by decide +kernel
theorem dX6_move_11 : decode cX6_move 11 = .ok (.iaload, 1) := by decide +kernel
theorem dX6_move_12 : decode cX6_move 12 = .ok (.istore_n 2, 1) := by decide +kernel
theorem dX6_move_13 : decode cX6_move 13 = .ok (.iload_n 1, 1) := by decide +kernel
theorem dX6_move_14 : decode cX6_move 14 = .ok (.bipush 24, 2) := by decide +kernel
theorem dX6_move_16 : decode cX6_move 16 = .ok (.iushr, 1) := by decide +kernel
theorem dX6_move_17 : decode cX6_move 17 = .ok (.istore_n 3, 1) := by decide +kernel
theorem dX6_move_18 : decode cX6_move 18 = .ok (.iload_n 1, 1) := by decide +kernel
theorem dX6_move_19 : decode cX6_move 19 = .ok (.i2s, 1) := by decide +kernel
theorem dX6_move_20 : decode cX6_move 20 = .ok (.istore 4, 2) := by decide +kernel
theorem dX6_move_22 : decode cX6_move 22 = .ok (.aload_n 0, 1) := by decide +kernel
theorem dX6_move_23 : decode cX6_move 23 = .ok (.aload_n 0, 1) := by decide +kernel
theorem dX6_move_24 : decode cX6_move 24 = .ok (.getfield 53, 3) := by decide +kernel
theorem dX6_move_27 : decode cX6_move 27 = .ok (.iconst 1, 1) := by decide +kernel
theorem dX6_move_28 : decode cX6_move 28 = .ok (.iadd, 1) := by decide +kernel
theorem dX6_move_29 : decode cX6_move 29 = .ok (.sipush 511, 3) := by decide +kernel
theorem dX6_move_32 : decode cX6_move 32 = .ok (.iand, 1) := by decide +kernel
theorem dX6_move_33 : decode cX6_move 33 = .ok (.putfield 53, 3) := by decide +kernel
theorem dX6_move_36 : decode cX6_move 36 = .ok (.iload_n 3, 1) := by decide +kernel
theorem dX6_move_37 : decode cX6_move 37 = .ok (.bipush 9, 2) := by decide +kernel
theorem dX6_move_39 : decode cX6_move 39 = .ok (.if_icmp .eq 23, 3) := by decide +kernel
theorem dX6_move_42 : decode cX6_move 42 = .ok (.iload_n 3, 1) := by decide +kernel
theorem dX6_move_43 : decode cX6_move 43 = .ok (.bipush 10, 2) := by decide +kernel
theorem dX6_move_45 : decode cX6_move 45 = .ok (.if_icmp .ne 7, 3) := by decide +kernel
theorem dX6_move_48 : decode cX6_move 48 = .ok (.iload_n 2, 1) := by decide +kernel
theorem dX6_move_49 : decode cX6_move 49 = .ok (.ifCond .eq 13, 3) := by decide +kernel
theorem dX6_move_52 : decode cX6_move 52 = .ok (.iload_n 3, 1) := by decide +kernel
theorem dX6_move_53 : decode cX6_move 53 = .ok (.bipush 11, 2) := by decide +kernel
theorem dX6_move_55 : decode cX6_move 55 = .ok (.if_icmp .ne 11, 3) := by decide +kernel
theorem dX6_move_58 : decode cX6_move 58 = .ok (.iload_n 2, 1) := by decide +kernel
theorem dX6_move_59 : decode cX6_move 59 = .ok (.ifCond .ge 7, 3) := by decide +kernel
theorem dX6_move_62 : decode cX6_move 62 = .ok (.iconst 1, 1) := by decide +kernel
theorem dX6_move_63 : decode cX6_move 63 = .ok (.goto 4, 3) := by decide +kernel
theorem dX6_move_66 : decode cX6_move 66 = .ok (.iconst 0, 1) := by decide +kernel
theorem dX6_move_67 : decode cX6_move 67 = .ok (.istore 5, 2) := by decide +kernel
theorem dX6_move_69 : decode cX6_move 69 = .ok (.iload 5, 2) := by decide +kernel
theorem dX6_move_71 : decode cX6_move 71 = .ok (.ifCond .eq 13, 3) := by decide +kernel
theorem dX6_move_74 : decode cX6_move 74 = .ok (.aload_n 0, 1) := by decide +kernel
theorem dX6_move_75 : decode cX6_move 75 = .ok (.iload 4, 2) := by decide +kernel
theorem dX6_move_77 : decode cX6_move 77 = .ok (.sipush 511, 3) := by decide +kernel
theorem dX6_move_80 : decode cX6_move 80 = .ok (.iand, 1) := by decide +kernel
theorem dX6_move_81 : decode cX6_move 81 = .ok (.putfield 53, 3) := by decide +kernel
theorem dX6_move_84 : decode cX6_move 84 = .ok (.iload_n 3, 1) := by decide +kernel
theorem dX6_move_85 : decode cX6_move 85 = .ok (.bipush 15, 2) := by decide +kernel
theorem dX6_move_87 : decode cX6_move 87 = .ok (.if_icmp .ne 11, 3) := by decide +kernel
theorem dX6_move_90 : decode cX6_move 90 = .ok (.aload_n 0, 1) := by decide +kernel
theorem dX6_move_91 : decode cX6_move 91 = .ok (.aload_n 0, 1) := by decide +kernel
theorem dX6_move_92 : decode cX6_move 92 = .ok (.getfield 56, 3) := by decide +kernel
theorem dX6_move_95 : decode cX6_move 95 = .ok (.putfield 53, 3) := by decide +kernel
theorem dX6_move_98 : decode cX6_move 98 = .ok (.iload_n 3, 1) := by decide +kernel
theorem dX6_move_99 : decode cX6_move 99 = .ok (.bipush 18, 2) := by decide +kernel
theorem dX6_move_101 : decode cX6_move 101 = .ok (.if_icmp .ne 12, 3) := by decide +kernel
theorem dX6_move_104 : decode cX6_move 104 = .ok (.aload_n 0, 1) := by decide +kernel
theorem dX6_move_105 : decode cX6_move 105 = .ok (.iload_n 2, 1) := by decide +kernel
theorem dX6_move_106 : decode cX6_move 106 = .ok (.sipush 511, 3) := by decide +kernel
theorem dX6_move_109 : decode cX6_move 109 = .ok (.iand, 1) := by decide +kernel
theorem dX6_move_110 : decode cX6_move 110 = .ok (.putfield 53, 3) := by decide +kernel
theorem dX6_move_113 : decode cX6_move 113 = .ok (.iload_n 3, 1) := by decide +kernel
theorem dX6_move_114 : decode cX6_move 114 = .ok (.bipush 15, 2) := by decide +kernel
theorem dX6_move_116 : decode cX6_move 116 = .ok (.if_icmp .eq 9, 3) := by decide +kernel
theorem dX6_move_119 : decode cX6_move 119 = .ok (.iload_n 3, 1) := by decide +kernel
theorem dX6_move_120 : decode cX6_move 120 = .ok (.bipush 16, 2) := by decide +kernel
theorem dX6_move_122 : decode cX6_move 122 = .ok (.if_icmp .ne 8, 3) := by decide +kernel
theorem dX6_move_125 : decode cX6_move 125 = .ok (.aload_n 0, 1) := by decide +kernel
theorem dX6_move_126 : decode cX6_move 126 = .ok (.iconst 1, 1) := by decide +kernel
theorem dX6_move_127 : decode cX6_move 127 = .ok (.putfield 59, 3) := by decide +kernel
theorem dX6_move_130 : decode cX6_move 130 = .ok (.iload_n 3, 1) := by decide +kernel
theorem dX6_move_131 : decode cX6_move 131 = .ok (.bipush 17, 2) := by decide +kernel
theorem dX6_move_133 : decode cX6_move 133 = .ok (.if_icmp .ne 8, 3) := by decide +kernel
theorem dX6_move_136 : decode cX6_move 136 = .ok (.aload_n 0, 1) := by decide +kernel
theorem dX6_move_137 : decode cX6_move 137 = .ok (.iconst 0, 1) := by decide +kernel
theorem dX6_move_138 : decode cX6_move 138 = .ok (.putfield 59, 3) := by decide +kernel
theorem dX6_move_141 : decode cX6_move 141 = .ok (.return_, 1) := by decide +kernel
set_option maxRecDepth 20000 in
theorem ggX6_instruct_X6_move : GoodIn wsX6_instruct wsX6_move := goodIn_r _ [5, 6, 7, 8, 9, 31, 32, 33, 34, 35, 36, 37, 38, 39, 40, 41, 42, 43, 44, 45, 46, 47, 48, 49, 50, 51, 52, 53] (by decide +kernel) (by decide +kernel)
set_option maxRecDepth 20000 in
theorem gX6_instruct_X6_move : GoodIn wsX6_instruct (wsV RX6 101 RX6 yX6_move wsX6_move) := goodIn_app (goodIn_of _ (by decide +kernel)) ggX6_instruct_X6_move
set_option maxRecDepth 20000 in
theorem ggX6_instruct_X6_work : GoodIn wsX6_instruct wsX6_work := goodIn_r _ [13, 6, 14, 15, 16, 17, 18, 4, 19, 20, 21, 22, 23, 24, 25, 26, 27, 28, 29, 30, 31, 32, 33, 34, 35, 36, 37, 38, 39, 40, 41, 42, 43, 44, 45, 46, 47, 48, 49, 50, 51, 52, 53] (by decide +kernel) (by decide +kernel)
set_option maxRecDepth 20000 in
theorem gX6_instruct_X6_work : GoodIn wsX6_instruct (wsV RX6 104 RX6 yX6_work wsX6_work) := goodIn_app (goodIn_of _ (by decide +kernel)) ggX6_instruct_X6_work
theorem dX6_instruct_0 : decode cX6_instruct 0 = .ok (.aload_n 0, 1) := by decide +kernel
theorem dX6_instruct_1 : decode cX6_instruct 1 = .ok (.iload_n 1, 1) := by decide +kernel
theorem dX6_instruct_2 : decode cX6_instruct 2 = .ok (.invokevirtual 101, 3) := by decide +kernel
theorem dX6_instruct_5 : decode cX6_instruct 5 = .ok (.aload_n 0, 1) := by decide +kernel
theorem dX6_instruct_6 : decode cX6_instruct 6 = .ok (.iload_n 1, 1) := by decide +kernel
theorem dX6_instruct_7 : decode cX6_instruct 7 = .ok (.iload_n 2, 1) := by decide +kernel
theorem dX6_instruct_8 : decode cX6_instruct 8 = .ok (.invokevirtual 104, 3) := by decide +kernel
theorem dX6_instruct_11 : decode cX6_instruct 11 = .ok (.return_, 1) := by decide +kernel
theorem dX6_pass_0 : decode cX6_pass 0 = .ok (.aload_n 0, 1) := by decide +kernel
theorem dX6_pass_1 : decode cX6_pass 1 = .ok (.dup, 1) := by decide +kernel
theorem dX6_pass_2 : decode cX6_pass 2 = .ok (.getfield 65, 3) := by decide +kernel
theorem dX6_pass_5 : decode cX6_pass 5 = .ok (.iconst 1, 1) := by decide +kernel
theorem dX6_pass_6 : decode cX6_pass 6 = .ok (.iadd, 1) := by decide +kernel
theorem dX6_pass_7 : decode cX6_pass 7 = .ok (.putfield 65, 3) := by decide +kernel
theorem dX6_pass_10 : decode cX6_pass 10 = .ok (.aload_n 0, 1) := by decide +kernel
theorem dX6_pass_11 : decode cX6_pass 11 = .ok (.getfield 65, 3) := by decide +kernel
theorem dX6_pass_14 : decode cX6_pass 14 = .ok (.aload_n 0, 1) := by decide +kernel
theorem dX6_pass_15 : decode cX6_pass 15 = .ok (.getfield 41, 3) := by decide +kernel
theorem dX6_pass_18 : decode cX6_pass 18 = .ok (.irem, 1) := by decide +kernel
theorem dX6_pass_19 : decode cX6_pass 19 = .ok (.ifCond .eq 4, 3) := by decide +kernel
theorem dX6_pass_22 : decode cX6_pass 22 = .ok (.return_, 1) := by decide +kernel
theorem dX6_pass_23 : decode cX6_pass 23 = .ok (.iconst 0, 1) := by decide +kernel
theorem dX6_pass_24 : decode cX6_pass 24 = .ok (.istore_n 1, 1) := by decide +kernel
theorem dX6_pass_25 : decode cX6_pass 25 = .ok (.iload_n 1, 1) := by decide +kernel
theorem dX6_pass_26 : decode cX6_pass 26 = .ok (.bipush 32, 2) := by decide +kernel
theorem dX6_pass_28 : decode cX6_pass 28 = .ok (.if_icmp .ge 16, 3) := by decide +kernel
theorem dX6_pass_31 : decode cX6_pass 31 = .ok (.aload_n 0, 1) := by decide +kernel
theorem dX6_pass_32 : decode cX6_pass 32 = .ok (.getfield 34, 3) := by decide +kernel
theorem dX6_pass_35 : decode cX6_pass 35 = .ok (.iload_n 1, 1) := by decide +kernel
theorem dX6_pass_36 : decode cX6_pass 36 = .ok (.iconst 0, 1) := by decide +kernel
theorem dX6_pass_37 : decode cX6_pass 37 = .ok (.bastore, 1) := by decide +kernel
theorem dX6_pass_38 : decode cX6_pass 38 = .ok (.iinc 1 1, 3) := by decide +kernel
theorem dX6_pass_41 : decode cX6_pass 41 = .ok (.goto (-16), 3) := by decide +kernel
theorem dX6_pass_44 : decode cX6_pass 44 = .ok (.return_, 1) := by decide +kernel
set_option maxRecDepth 20000 in
theorem ggX6_again_X6_interrupt : GoodIn wsX6_again wsX6_interrupt := goodIn_r _ [13, 8, 14, 15, 49, 50, 51, 52, 53, 54, 55, 56, 57, 58, 59, 60, 61, 62, 63, 64, 65, 66, 67, 68, 69, 70, 71] (by decide +kernel) (by decide +kernel)
set_option maxRecDepth 20000 in
theorem gX6_again_X6_interrupt : GoodIn wsX6_again (wsV RX6 107 RX6 yX6_interrupt wsX6_interrupt) := goodIn_app (goodIn_of _ (by decide +kernel)) ggX6_again_X6_interrupt
set_option maxRecDepth 20000 in
theorem ggX6_again_X6_instruct : GoodIn wsX6_again wsX6_instruct := goodIn_r _ [19, 20, 21, 22, 12, 23, 24, 8, 14, 15, 25, 26, 27, 28, 7, 4, 29, 30, 31, 32, 33, 34, 35, 36, 37, 38, 39, 40, 41, 42, 43, 49, 50, 51, 52, 53, 54, 55, 56, 57, 58, 59, 60, 61, 62, 63, 64, 65, 66, 67, 68, 69, 70, 71] (by decide +kernel) (by decide +kernel)
set_option maxRecDepth 20000 in
theorem gX6_again_X6_instruct : GoodIn wsX6_again (wsV RX6 110 RX6 yX6_instruct wsX6_instruct) := goodIn_app (goodIn_of _ (by decide +kernel)) ggX6_again_X6_instruct
set_option maxRecDepth 20000 in
theorem ggX6_again_X6_pass : GoodIn wsX6_again wsX6_pass := goodIn_r _ [47, 4, 48, 37, 49, 50, 51, 52, 53, 54, 55, 56, 57, 58, 59, 60, 61, 62, 63, 64, 65, 66, 67, 68, 69, 70, 71] (by decide +kernel) (by decide +kernel)
set_option maxRecDepth 20000 in
theorem gX6_again_X6_pass : GoodIn wsX6_again (wsV RX6 113 RX6 yX6_pass wsX6_pass) := goodIn_app (goodIn_of _ (by decide +kernel)) ggX6_again_X6_pass
theorem dX6_again_0 : decode cX6_again 0 = .ok (.aload_n 0, 1) := by decide +kernel
theorem dX6_again_1 : decode cX6_again 1 = .ok (.getfield 68, 3) := by decide +kernel
theorem dX6_again_4 : decode cX6_again 4 = .ok (.aload_n 0, 1) := by decide +kernel
theorem dX6_again_5 : decode cX6_again 5 = .ok (.getfield 74, 3) := by decide +kernel
theorem dX6_again_8 : decode cX6_again 8 = .ok (.if_icmp .ge 23, 3) := by decide +kernel
theorem dX6_again_11 : decode cX6_again 11 = .ok (.aload_n 0, 1) := by decide +kernel
theorem dX6_again_12 : decode cX6_again 12 = .ok (.getfield 22, 3) := by decide +kernel
theorem dX6_again_15 : decode cX6_again 15 = .ok (.aload_n 0, 1) := by decide +kernel
theorem dX6_again_16 : decode cX6_again 16 = .ok (.getfield 68, 3) := by decide +kernel
theorem dX6_again_19 : decode cX6_again 19 = .ok (.iaload, 1) := by decide +kernel
theorem dX6_again_20 : decode cX6_again 20 = .ok (.aload_n 0, 1) := by decide +kernel
theorem dX6_again_21 : decode cX6_again 21 = .ok (.getfield 65, 3) := by decide +kernel
theorem dX6_again_24 : decode cX6_again 24 = .ok (.if_icmp .ne 7, 3) := by decide +kernel
theorem dX6_again_27 : decode cX6_again 27 = .ok (.iconst 1, 1) := by decide +kernel
theorem dX6_again_28 : decode cX6_again 28 = .ok (.goto 4, 3) := by decide +kernel
theorem dX6_again_31 : decode cX6_again 31 = .ok (.iconst 0, 1) := by decide +kernel
theorem dX6_again_32 : decode cX6_again 32 = .ok (.istore_n 1, 1) := by decide +kernel
theorem dX6_again_33 : decode cX6_again 33 = .ok (.iload_n 1, 1) := by decide +kernel
theorem dX6_again_34 : decode cX6_again 34 = .ok (.ifCond .eq 15, 3) := by decide +kernel
theorem dX6_again_37 : decode cX6_again 37 = .ok (.aload_n 0, 1) := by decide +kernel
theorem dX6_again_38 : decode cX6_again 38 = .ok (.getfield 28, 3) := by decide +kernel
theorem dX6_again_41 : decode cX6_again 41 = .ok (.aload_n 0, 1) := by decide +kernel
theorem dX6_again_42 : decode cX6_again 42 = .ok (.getfield 68, 3) := by decide +kernel
theorem dX6_again_45 : decode cX6_again 45 = .ok (.iaload, 1) := by decide +kernel
theorem dX6_again_46 : decode cX6_again 46 = .ok (.goto 4, 3) := by decide +kernel
theorem dX6_again_49 : decode cX6_again 49 = .ok (.iconst 0, 1) := by decide +kernel
theorem dX6_again_50 : decode cX6_again 50 = .ok (.istore_n 2, 1) := by decide +kernel
theorem dX6_again_51 : decode cX6_again 51 = .ok (.iload_n 1, 1) := by decide +kernel
theorem dX6_again_52 : decode cX6_again 52 = .ok (.ifCond .eq 23, 3) := by decide +kernel
theorem dX6_again_55 : decode cX6_again 55 = .ok (.aload_n 0, 1) := by decide +kernel
theorem dX6_again_56 : decode cX6_again 56 = .ok (.getfield 25, 3) := by decide +kernel
theorem dX6_again_59 : decode cX6_again 59 = .ok (.aload_n 0, 1) := by decide +kernel
theorem dX6_again_60 : decode cX6_again 60 = .ok (.getfield 68, 3) := by decide +kernel
theorem dX6_again_63 : decode cX6_again 63 = .ok (.iaload, 1) := by decide +kernel
theorem dX6_again_64 : decode cX6_again 64 = .ok (.iconst 2, 1) := by decide +kernel
theorem dX6_again_65 : decode cX6_again 65 = .ok (.if_icmp .ne 10, 3) := by decide +kernel
theorem dX6_again_68 : decode cX6_again 68 = .ok (.aload_n 0, 1) := by decide +kernel
theorem dX6_again_69 : decode cX6_again 69 = .ok (.invokevirtual 107, 3) := by decide +kernel
theorem dX6_again_72 : decode cX6_again 72 = .ok (.goto 17, 3) := by decide +kernel
theorem dX6_again_75 : decode cX6_again 75 = .ok (.aload_n 0, 1) := by decide +kernel
theorem dX6_again_76 : decode cX6_again 76 = .ok (.aload_n 0, 1) := by decide +kernel
theorem dX6_again_77 : decode cX6_again 77 = .ok (.getfield 13, 3) := by decide +kernel
theorem dX6_again_80 : decode cX6_again 80 = .ok (.aload_n 0, 1) := by decide +kernel
theorem dX6_again_81 : decode cX6_again 81 = .ok (.getfield 53, 3) := by decide +kernel
theorem dX6_again_84 : decode cX6_again 84 = .ok (.iaload, 1) := by decide +kernel
theorem dX6_again_85 : decode cX6_again 85 = .ok (.iload_n 2, 1) := by decide +kernel
theorem dX6_again_86 : decode cX6_again 86 = .ok (.invokevirtual 110, 3) := by decide +kernel
theorem dX6_again_89 : decode cX6_again 89 = .ok (.iload_n 1, 1) := by decide +kernel
theorem dX6_again_90 : decode cX6_again 90 = .ok (.ifCond .eq 13, 3) := by decide +kernel
theorem dX6_again_93 : decode cX6_again 93 = .ok (.aload_n 0, 1) := by decide +kernel
theorem dX6_again_94 : decode cX6_again 94 = .ok (.dup, 1) := by decide +kernel
theorem dX6_again_95 : decode cX6_again 95 = .ok (.getfield 68, 3) := by decide +kernel
theorem dX6_again_98 : decode cX6_again 98 = .ok (.iconst 1, 1) := by decide +kernel
theorem dX6_again_99 : decode cX6_again 99 = .ok (.iadd, 1) := by decide +kernel
theorem dX6_again_100 : decode cX6_again 100 = .ok (.putfield 68, 3) := by decide +kernel
theorem dX6_again_103 : decode cX6_again 103 = .ok (.aload_n 0, 1) := by decide +kernel
theorem dX6_again_104 : decode cX6_again 104 = .ok (.invokevirtual 113, 3) := by decide +kernel
theorem dX6_again_107 : decode cX6_again 107 = .ok (.return_, 1) := by decide +kernel
theorem dX6_writtenPages_0 : decode cX6_writtenPages 0 = .ok (.iconst 0, 1) := by decide +kernel
theorem dX6_writtenPages_1 : decode cX6_writtenPages 1 = .ok (.istore_n 1, 1) := by decide +kernel
theorem dX6_writtenPages_2 : decode cX6_writtenPages 2 = .ok (.iconst 0, 1) := by decide +kernel
theorem dX6_writtenPages_3 : decode cX6_writtenPages 3 = .ok (.istore_n 2, 1) := by decide +kernel
theorem dX6_writtenPages_4 : decode cX6_writtenPages 4 = .ok (.iload_n 2, 1) := by decide +kernel
theorem dX6_writtenPages_5 : decode cX6_writtenPages 5 = .ok (.bipush 32, 2) := by decide +kernel
theorem dX6_writtenPages_7 : decode cX6_writtenPages 7 = .ok (.if_icmp .ge 26, 3) := by decide +kernel
theorem dX6_writtenPages_10 : decode cX6_writtenPages 10 = .ok (.iload_n 1, 1) := by decide +kernel
theorem dX6_writtenPages_11 : decode cX6_writtenPages 11 = .ok (.aload_n 0, 1) := by decide +kernel
theorem dX6_writtenPages_12 : decode cX6_writtenPages 12 = .ok (.getfield 34, 3) := by decide +kernel
theorem dX6_writtenPages_15 : decode cX6_writtenPages 15 = .ok (.iload_n 2, 1) := by decide +kernel
theorem dX6_writtenPages_16 : decode cX6_writtenPages 16 = .ok (.baload, 1) := by decide +kernel
theorem dX6_writtenPages_17 : decode cX6_writtenPages 17 = .ok (.ifCond .eq 7, 3) := by decide +kernel
theorem dX6_writtenPages_20 : decode cX6_writtenPages 20 = .ok (.iconst 1, 1) := by decide +kernel
theorem dX6_writtenPages_21 : decode cX6_writtenPages 21 = .ok (.goto 4, 3) := by decide +kernel
theorem dX6_writtenPages_24 : decode cX6_writtenPages 24 = .ok (.iconst 0, 1) := by decide +kernel
theorem dX6_writtenPages_25 : decode cX6_writtenPages 25 = .ok (.iadd, 1) := by decide +kernel
theorem dX6_writtenPages_26 : decode cX6_writtenPages 26 = .ok (.istore_n 1, 1) := by decide +kernel
theorem dX6_writtenPages_27 : decode cX6_writtenPages 27 = .ok (.iinc 2 1, 3) := by decide +kernel
theorem dX6_writtenPages_30 : decode cX6_writtenPages 30 = .ok (.goto (-26), 3) := by decide +kernel
theorem dX6_writtenPages_33 : decode cX6_writtenPages 33 = .ok (.iload_n 1, 1) := by decide +kernel
theorem dX6_writtenPages_34 : decode cX6_writtenPages 34 = .ok (.ireturn, 1) := by decide +kernel
theorem dX6_allPages_0 : decode cX6_allPages 0 = .ok (.iconst 0, 1) := by decide +kernel
theorem dX6_allPages_1 : decode cX6_allPages 1 = .ok (.istore_n 1, 1) := by decide +kernel
theorem dX6_allPages_2 : decode cX6_allPages 2 = .ok (.iconst 0, 1) := by decide +kernel
theorem dX6_allPages_3 : decode cX6_allPages 3 = .ok (.istore_n 2, 1) := by decide +kernel
theorem dX6_allPages_4 : decode cX6_allPages 4 = .ok (.iload_n 2, 1) := by decide +kernel
theorem dX6_allPages_5 : decode cX6_allPages 5 = .ok (.aload_n 0, 1) := by decide +kernel
theorem dX6_allPages_6 : decode cX6_allPages 6 = .ok (.getfield 77, 3) := by decide +kernel
theorem dX6_allPages_9 : decode cX6_allPages 9 = .ok (.if_icmp .ge 18, 3) := by decide +kernel
theorem dX6_allPages_12 : decode cX6_allPages 12 = .ok (.iload_n 1, 1) := by decide +kernel
theorem dX6_allPages_13 : decode cX6_allPages 13 = .ok (.aload_n 0, 1) := by decide +kernel
theorem dX6_allPages_14 : decode cX6_allPages 14 = .ok (.getfield 31, 3) := by decide +kernel
theorem dX6_allPages_17 : decode cX6_allPages 17 = .ok (.iload_n 2, 1) := by decide +kernel
theorem dX6_allPages_18 : decode cX6_allPages 18 = .ok (.iaload, 1) := by decide +kernel
theorem dX6_allPages_19 : decode cX6_allPages 19 = .ok (.iadd, 1) := by decide +kernel
theorem dX6_allPages_20 : decode cX6_allPages 20 = .ok (.istore_n 1, 1) := by decide +kernel
theorem dX6_allPages_21 : decode cX6_allPages 21 = .ok (.iinc 2 1, 3) := by decide +kernel
theorem dX6_allPages_24 : decode cX6_allPages 24 = .ok (.goto (-20), 3) := by decide +kernel
theorem dX6_allPages_27 : decode cX6_allPages 27 = .ok (.iload_n 1, 1) := by decide +kernel
theorem dX6_allPages_28 : decode cX6_allPages 28 = .ok (.ireturn, 1) := by decide +kernel
set_option maxRecDepth 20000 in
theorem ggX6_isFull_X6_writtenPages : GoodIn wsX6_isFull wsX6_writtenPages := goodIn_r _ [9, 3, 20, 21, 22, 23, 24, 25, 26, 27, 28, 29, 30, 31, 32, 33, 34, 35, 36, 37, 38, 39, 40, 41, 42] (by decide +kernel) (by decide +kernel)
set_option maxRecDepth 20000 in
theorem gX6_isFull_X6_writtenPages : GoodIn wsX6_isFull (wsV RX6 116 RX6 yX6_writtenPages wsX6_writtenPages) := goodIn_app (goodIn_of _ (by decide +kernel)) ggX6_isFull_X6_writtenPages
set_option maxRecDepth 20000 in
theorem ggX6_isFull_X6_meant : GoodIn wsX6_isFull wsX6_meant := goodIn_r _ [13, 14, 20, 21, 22, 23, 24, 25, 26, 27, 28, 29, 30, 31, 32, 33, 34, 35, 36, 37, 38, 39, 40, 41, 42] (by decide +kernel) (by decide +kernel)
set_option maxRecDepth 20000 in
theorem gX6_isFull_X6_meant : GoodIn wsX6_isFull (wsV RX6 89 RX6 yX6_meant wsX6_meant) := goodIn_app (goodIn_of _ (by decide +kernel)) ggX6_isFull_X6_meant
set_option maxRecDepth 20000 in
theorem ggX6_isFull_X6_allPages : GoodIn wsX6_isFull wsX6_allPages := goodIn_r _ [18, 4, 19, 20, 21, 22, 23, 24, 25, 26, 27, 28, 29, 30, 31, 32, 33, 34, 35, 36, 37, 38, 39, 40, 41, 42] (by decide +kernel) (by decide +kernel)
set_option maxRecDepth 20000 in
theorem gX6_isFull_X6_allPages : GoodIn wsX6_isFull (wsV RX6 120 RX6 yX6_allPages wsX6_allPages) := goodIn_app (goodIn_of _ (by decide +kernel)) ggX6_isFull_X6_allPages
theorem dX6_isFull_0 : decode cX6_isFull 0 = .ok (.aload_n 0, 1) := by decide +kernel
theorem dX6_isFull_1 : decode cX6_isFull 1 = .ok (.getfield 71, 3) := by decide +kernel
theorem dX6_isFull_4 : decode cX6_isFull 4 = .ok (.iconst 1, 1) := by decide +kernel
theorem dX6_isFull_5 : decode cX6_isFull 5 = .ok (.iadd, 1) := by decide +kernel
theorem dX6_isFull_6 : decode cX6_isFull 6 = .ok (.aload_n 0, 1) := by decide +kernel
theorem dX6_isFull_7 : decode cX6_isFull 7 = .ok (.getfield 41, 3) := by decide +kernel
theorem dX6_isFull_10 : decode cX6_isFull 10 = .ok (.irem, 1) := by decide +kernel
theorem dX6_isFull_11 : decode cX6_isFull 11 = .ok (.ifCond .eq 5, 3) := by decide +kernel
theorem dX6_isFull_14 : decode cX6_isFull 14 = .ok (.iconst 0, 1) := by decide +kernel
theorem dX6_isFull_15 : decode cX6_isFull 15 = .ok (.ireturn, 1) := by decide +kernel
theorem dX6_isFull_16 : decode cX6_isFull 16 = .ok (.iload_n 1, 1) := by decide +kernel
theorem dX6_isFull_17 : decode cX6_isFull 17 = .ok (.ifCond .ne 16, 3) := by decide +kernel
theorem dX6_isFull_20 : decode cX6_isFull 20 = .ok (.iload_n 2, 1) := by decide +kernel
theorem dX6_isFull_21 : decode cX6_isFull 21 = .ok (.bipush 24, 2) := by decide +kernel
theorem dX6_isFull_23 : decode cX6_isFull 23 = .ok (.iushr, 1) := by decide +kernel
theorem dX6_isFull_24 : decode cX6_isFull 24 = .ok (.bipush 8, 2) := by decide +kernel
theorem dX6_isFull_26 : decode cX6_isFull 26 = .ok (.if_icmp .ne 7, 3) := by decide +kernel
theorem dX6_isFull_29 : decode cX6_isFull 29 = .ok (.iconst 1, 1) := by decide +kernel
theorem dX6_isFull_30 : decode cX6_isFull 30 = .ok (.goto 4, 3) := by decide +kernel
theorem dX6_isFull_33 : decode cX6_isFull 33 = .ok (.iconst 0, 1) := by decide +kernel
theorem dX6_isFull_34 : decode cX6_isFull 34 = .ok (.istore_n 3, 1) := by decide +kernel
theorem dX6_isFull_35 : decode cX6_isFull 35 = .ok (.aload_n 0, 1) := by decide +kernel
theorem dX6_isFull_36 : decode cX6_isFull 36 = .ok (.invokevirtual 116, 3) := by decide +kernel
theorem dX6_isFull_39 : decode cX6_isFull 39 = .ok (.iload_n 3, 1) := by decide +kernel
theorem dX6_isFull_40 : decode cX6_isFull 40 = .ok (.ifCond .eq 23, 3) := by decide +kernel
theorem dX6_isFull_43 : decode cX6_isFull 43 = .ok (.aload_n 0, 1) := by decide +kernel
theorem dX6_isFull_44 : decode cX6_isFull 44 = .ok (.getfield 34, 3) := by decide +kernel
theorem dX6_isFull_47 : decode cX6_isFull 47 = .ok (.aload_n 0, 1) := by decide +kernel
theorem dX6_isFull_48 : decode cX6_isFull 48 = .ok (.iload_n 2, 1) := by decide +kernel
theorem dX6_isFull_49 : decode cX6_isFull 49 = .ok (.invokevirtual 89, 3) := by decide +kernel
theorem dX6_isFull_52 : decode cX6_isFull 52 = .ok (.bipush 16, 2) := by decide +kernel
theorem dX6_isFull_54 : decode cX6_isFull 54 = .ok (.idiv, 1) := by decide +kernel
theorem dX6_isFull_55 : decode cX6_isFull 55 = .ok (.baload, 1) := by decide +kernel
theorem dX6_isFull_56 : decode cX6_isFull 56 = .ok (.ifCond .ne 7, 3) := by decide +kernel
theorem dX6_isFull_59 : decode cX6_isFull 59 = .ok (.iconst 1, 1) := by decide +kernel
theorem dX6_isFull_60 : decode cX6_isFull 60 = .ok (.goto 4, 3) := by decide +kernel
theorem dX6_isFull_63 : decode cX6_isFull 63 = .ok (.iconst 0, 1) := by decide +kernel
theorem dX6_isFull_64 : decode cX6_isFull 64 = .ok (.iadd, 1) := by decide +kernel
theorem dX6_isFull_65 : decode cX6_isFull 65 = .ok (.istore 4, 2) := by decide +kernel
theorem dX6_isFull_67 : decode cX6_isFull 67 = .ok (.aload_n 0, 1) := by decide +kernel
theorem dX6_isFull_68 : decode cX6_isFull 68 = .ok (.getfield 77, 3) := by decide +kernel
theorem dX6_isFull_71 : decode cX6_isFull 71 = .ok (.bipush 40, 2) := by decide +kernel
theorem dX6_isFull_73 : decode cX6_isFull 73 = .ok (.if_icmp .eq 16, 3) := by decide +kernel
theorem dX6_isFull_76 : decode cX6_isFull 76 = .ok (.aload_n 0, 1) := by decide +kernel
theorem dX6_isFull_77 : decode cX6_isFull 77 = .ok (.invokevirtual 120, 3) := by decide +kernel
theorem dX6_isFull_80 : decode cX6_isFull 80 = .ok (.iload 4, 2) := by decide +kernel
theorem dX6_isFull_82 : decode cX6_isFull 82 = .ok (.iadd, 1) := by decide +kernel
theorem dX6_isFull_83 : decode cX6_isFull 83 = .ok (.sipush 300, 3) := by decide +kernel
theorem dX6_isFull_86 : decode cX6_isFull 86 = .ok (.if_icmp .le 7, 3) := by decide +kernel
theorem dX6_isFull_89 : decode cX6_isFull 89 = .ok (.iconst 1, 1) := by decide +kernel
theorem dX6_isFull_90 : decode cX6_isFull 90 = .ok (.goto 4, 3) := by decide +kernel
theorem dX6_isFull_93 : decode cX6_isFull 93 = .ok (.iconst 0, 1) := by decide +kernel
theorem dX6_isFull_94 : decode cX6_isFull 94 = .ok (.ireturn, 1) := by decide +kernel
theorem dX6_note_0 : decode cX6_note 0 = .ok (.aload_n 0, 1) := by decide +kernel
theorem dX6_note_1 : decode cX6_note 1 = .ok (.getfield 22, 3) := by decide +kernel
theorem dX6_note_4 : decode cX6_note 4 = .ok (.aload_n 0, 1) := by decide +kernel
theorem dX6_note_5 : decode cX6_note 5 = .ok (.getfield 74, 3) := by decide +kernel
theorem dX6_note_8 : decode cX6_note 8 = .ok (.aload_n 0, 1) := by decide +kernel
theorem dX6_note_9 : decode cX6_note 9 = .ok (.getfield 65, 3) := by decide +kernel
theorem dX6_note_12 : decode cX6_note 12 = .ok (.iastore, 1) := by decide +kernel
theorem dX6_note_13 : decode cX6_note 13 = .ok (.aload_n 0, 1) := by decide +kernel
theorem dX6_note_14 : decode cX6_note 14 = .ok (.getfield 25, 3) := by decide +kernel
theorem dX6_note_17 : decode cX6_note 17 = .ok (.aload_n 0, 1) := by decide +kernel
theorem dX6_note_18 : decode cX6_note 18 = .ok (.getfield 74, 3) := by decide +kernel
theorem dX6_note_21 : decode cX6_note 21 = .ok (.iload_n 1, 1) := by decide +kernel
theorem dX6_note_22 : decode cX6_note 22 = .ok (.iastore, 1) := by decide +kernel
theorem dX6_note_23 : decode cX6_note 23 = .ok (.aload_n 0, 1) := by decide +kernel
theorem dX6_note_24 : decode cX6_note 24 = .ok (.getfield 28, 3) := by decide +kernel
theorem dX6_note_27 : decode cX6_note 27 = .ok (.aload_n 0, 1) := by decide +kernel
theorem dX6_note_28 : decode cX6_note 28 = .ok (.getfield 74, 3) := by decide +kernel
theorem dX6_note_31 : decode cX6_note 31 = .ok (.iload_n 2, 1) := by decide +kernel
theorem dX6_note_32 : decode cX6_note 32 = .ok (.iastore, 1) := by decide +kernel
theorem dX6_note_33 : decode cX6_note 33 = .ok (.aload_n 0, 1) := by decide +kernel
theorem dX6_note_34 : decode cX6_note 34 = .ok (.dup, 1) := by decide +kernel
theorem dX6_note_35 : decode cX6_note 35 = .ok (.getfield 74, 3) := by decide +kernel
theorem dX6_note_38 : decode cX6_note 38 = .ok (.iconst 1, 1) := by decide +kernel
theorem dX6_note_39 : decode cX6_note 39 = .ok (.iadd, 1) := by decide +kernel
theorem dX6_note_40 : decode cX6_note 40 = .ok (.putfield 74, 3) := by decide +kernel
theorem dX6_note_43 : decode cX6_note 43 = .ok (.aload_n 0, 1) := by decide +kernel
theorem dX6_note_44 : decode cX6_note 44 = .ok (.aload_n 0, 1) := by decide +kernel
theorem dX6_note_45 : decode cX6_note 45 = .ok (.getfield 74, 3) := by decide +kernel
theorem dX6_note_48 : decode cX6_note 48 = .ok (.putfield 68, 3) := by decide +kernel
theorem dX6_note_51 : decode cX6_note 51 = .ok (.return_, 1) := by decide +kernel
theorem dX6_takeInput_0 : decode cX6_takeInput 0 = .ok (.aload_n 0, 1) := by decide +kernel
theorem dX6_takeInput_1 : decode cX6_takeInput 1 = .ok (.getfield 38, 3) := by decide +kernel
theorem dX6_takeInput_4 : decode cX6_takeInput 4 = .ok (.iconst 0, 1) := by decide +kernel
theorem dX6_takeInput_5 : decode cX6_takeInput 5 = .ok (.iaload, 1) := by decide +kernel
theorem dX6_takeInput_6 : decode cX6_takeInput 6 = .ok (.istore_n 1, 1) := by decide +kernel
theorem dX6_takeInput_7 : decode cX6_takeInput 7 = .ok (.aload_n 0, 1) := by decide +kernel
theorem dX6_takeInput_8 : decode cX6_takeInput 8 = .ok (.dup, 1) := by decide +kernel
theorem dX6_takeInput_9 : decode cX6_takeInput 9 = .ok (.getfield 80, 3) := by decide +kernel
theorem dX6_takeInput_12 : decode cX6_takeInput 12 = .ok (.iconst 1, 1) := by decide +kernel
theorem dX6_takeInput_13 : decode cX6_takeInput 13 = .ok (.isub, 1) := by decide +kernel
theorem dX6_takeInput_14 : decode cX6_takeInput 14 = .ok (.putfield 80, 3) := by decide +kernel
theorem dX6_takeInput_17 : decode cX6_takeInput 17 = .ok (.iconst 0, 1) := by decide +kernel
theorem dX6_takeInput_18 : decode cX6_takeInput 18 = .ok (.istore_n 2, 1) := by decide +kernel
theorem dX6_takeInput_19 : decode cX6_takeInput 19 = .ok (.iload_n 2, 1) := by decide +kernel
theorem dX6_takeInput_20 : decode cX6_takeInput 20 = .ok (.aload_n 0, 1) := by decide +kernel
theorem dX6_takeInput_21 : decode cX6_takeInput 21 = .ok (.getfield 80, 3) := by decide +kernel
theorem dX6_takeInput_24 : decode cX6_takeInput 24 = .ok (.if_icmp .ge 23, 3) := by decide +kernel
theorem dX6_takeInput_27 : decode cX6_takeInput 27 = .ok (.aload_n 0, 1) := by decide +kernel
theorem dX6_takeInput_28 : decode cX6_takeInput 28 = .ok (.getfield 38, 3) := by decide +kernel
theorem dX6_takeInput_31 : decode cX6_takeInput 31 = .ok (.iload_n 2, 1) := by decide +kernel
theorem dX6_takeInput_32 : decode cX6_takeInput 32 = .ok (.aload_n 0, 1) := by decide +kernel
theorem dX6_takeInput_33 : decode cX6_takeInput 33 = .ok (.getfield 38, 3) := by decide +kernel
theorem dX6_takeInput_36 : decode cX6_takeInput 36 = .ok (.iload_n 2, 1) := by decide +kernel
theorem dX6_takeInput_37 : decode cX6_takeInput 37 = .ok (.iconst 1, 1) := by decide +kernel
theorem dX6_takeInput_38 : decode cX6_takeInput 38 = .ok (.iadd, 1) := by decide +kernel
theorem dX6_takeInput_39 : decode cX6_takeInput 39 = .ok (.iaload, 1) := by decide +kernel
theorem dX6_takeInput_40 : decode cX6_takeInput 40 = .ok (.iastore, 1) := by decide +kernel
theorem dX6_takeInput_41 : decode cX6_takeInput 41 = .ok (.iinc 2 1, 3) := by decide +kernel
theorem dX6_takeInput_44 : decode cX6_takeInput 44 = .ok (.goto (-25), 3) := by decide +kernel
theorem dX6_takeInput_47 : decode cX6_takeInput 47 = .ok (.iload_n 1, 1) := by decide +kernel
theorem dX6_takeInput_48 : decode cX6_takeInput 48 = .ok (.ireturn, 1) := by decide +kernel
set_option maxRecDepth 20000 in
theorem ggX6_live_X6_isFull : GoodIn wsX6_live wsX6_isFull := goodIn_r _ [15, 7, 8, 16, 10, 17, 18, 19, 14, 20, 21, 22, 23, 24, 25, 26, 27, 28, 29, 9, 75, 76, 77, 78, 79, 80, 81, 82, 83, 84, 85, 86, 87, 88, 89, 90, 91, 92, 93, 94, 95, 96, 97] (by decide +kernel) (by decide +kernel)
set_option maxRecDepth 20000 in
theorem gX6_live_X6_isFull : GoodIn wsX6_live (wsV RX6 123 RX6 yX6_isFull wsX6_isFull) := goodIn_app (goodIn_of _ (by decide +kernel)) ggX6_live_X6_isFull
set_option maxRecDepth 20000 in
theorem ggX6_live_X6_takeInput : GoodIn wsX6_live wsX6_takeInput := goodIn_r _ [33, 34, 5, 75, 76, 77, 78, 79, 80, 81, 82, 83, 84, 85, 86, 87, 88, 89, 90, 91, 92, 93, 94, 95, 96, 97] (by decide +kernel) (by decide +kernel)
set_option maxRecDepth 20000 in
theorem gX6_live_X6_takeInput : GoodIn wsX6_live (wsV RX6 127 RX6 yX6_takeInput wsX6_takeInput) := goodIn_app (goodIn_of _ (by decide +kernel)) ggX6_live_X6_takeInput
set_option maxRecDepth 20000 in
theorem ggX6_live_X6_note : GoodIn wsX6_live wsX6_note := goodIn_r _ [38, 39, 6, 40, 41, 42, 43, 75, 76, 77, 78, 79, 80, 81, 82, 83, 84, 85, 86, 87, 88, 89, 90, 91, 92, 93, 94, 95, 96, 97] (by decide +kernel) (by decide +kernel)
set_option maxRecDepth 20000 in
theorem gX6_live_X6_note : GoodIn wsX6_live (wsV RX6 130 RX6 yX6_note wsX6_note) := goodIn_app (goodIn_of _ (by decide +kernel)) ggX6_live_X6_note
set_option maxRecDepth 20000 in
theorem ggX6_live_X6_interrupt : GoodIn wsX6_live wsX6_interrupt := goodIn_r _ [47, 4, 48, 2, 75, 76, 77, 78, 79, 80, 81, 82, 83, 84, 85, 86, 87, 88, 89, 90, 91, 92, 93, 94, 95, 96, 97] (by decide +kernel) (by decide +kernel)
set_option maxRecDepth 20000 in
theorem gX6_live_X6_interrupt : GoodIn wsX6_live (wsV RX6 107 RX6 yX6_interrupt wsX6_interrupt) := goodIn_app (goodIn_of _ (by decide +kernel)) ggX6_live_X6_interrupt
set_option maxRecDepth 20000 in
theorem ggX6_live_X6_instruct : GoodIn wsX6_live wsX6_instruct := goodIn_r _ [52, 53, 54, 55, 14, 56, 25, 4, 48, 2, 57, 58, 59, 60, 3, 40, 21, 22, 23, 24, 61, 62, 63, 64, 16, 65, 66, 67, 68, 69, 70, 75, 76, 77, 78, 79, 80, 81, 82, 83, 84, 85, 86, 87, 88, 89, 90, 91, 92, 93, 94, 95, 96, 97] (by decide +kernel) (by decide +kernel)
set_option maxRecDepth 20000 in
theorem gX6_live_X6_instruct : GoodIn wsX6_live (wsV RX6 110 RX6 yX6_instruct wsX6_instruct) := goodIn_app (goodIn_of _ (by decide +kernel)) ggX6_live_X6_instruct
set_option maxRecDepth 20000 in
theorem ggX6_live_X6_writtenPages : GoodIn wsX6_live wsX6_writtenPages := goodIn_r _ [20, 16, 75, 76, 77, 78, 79, 80, 81, 82, 83, 84, 85, 86, 87, 88, 89, 90, 91, 92, 93, 94, 95, 96, 97] (by decide +kernel) (by decide +kernel)
set_option maxRecDepth 20000 in
theorem gX6_live_X6_writtenPages : GoodIn wsX6_live (wsV RX6 116 RX6 yX6_writtenPages wsX6_writtenPages) := goodIn_app (goodIn_of _ (by decide +kernel)) ggX6_live_X6_writtenPages
set_option maxRecDepth 20000 in
theorem ggX6_live_X6_pass : GoodIn wsX6_live wsX6_pass := goodIn_r _ [74, 40, 8, 16, 75, 76, 77, 78, 79, 80, 81, 82, 83, 84, 85, 86, 87, 88, 89, 90, 91, 92, 93, 94, 95, 96, 97] (by decide +kernel) (by decide +kernel)
set_option maxRecDepth 20000 in
theorem gX6_live_X6_pass : GoodIn wsX6_live (wsV RX6 113 RX6 yX6_pass wsX6_pass) := goodIn_app (goodIn_of _ (by decide +kernel)) ggX6_live_X6_pass
theorem dX6_live_0 : decode cX6_live 0 = .ok (.aload_n 0, 1) := by decide +kernel
theorem dX6_live_1 : decode cX6_live 1 = .ok (.getfield 83, 3) := by decide +kernel
theorem dX6_live_4 : decode cX6_live 4 = .ok (.ifCond .eq 14, 3) := by decide +kernel
theorem dX6_live_7 : decode cX6_live 7 = .ok (.aload_n 0, 1) := by decide +kernel
theorem dX6_live_8 : decode cX6_live 8 = .ok (.getfield 59, 3) := by decide +kernel
theorem dX6_live_11 : decode cX6_live 11 = .ok (.ifCond .eq 7, 3) := by decide +kernel
theorem dX6_live_14 : decode cX6_live 14 = .ok (.iconst 1, 1) := by decide +kernel
theorem dX6_live_15 : decode cX6_live 15 = .ok (.goto 4, 3) := by decide +kernel
theorem dX6_live_18 : decode cX6_live 18 = .ok (.iconst 0, 1) := by decide +kernel
theorem dX6_live_19 : decode cX6_live 19 = .ok (.istore_n 1, 1) := by decide +kernel
theorem dX6_live_20 : decode cX6_live 20 = .ok (.aload_n 0, 1) := by decide +kernel
theorem dX6_live_21 : decode cX6_live 21 = .ok (.getfield 13, 3) := by decide +kernel
theorem dX6_live_24 : decode cX6_live 24 = .ok (.aload_n 0, 1) := by decide +kernel
theorem dX6_live_25 : decode cX6_live 25 = .ok (.getfield 53, 3) := by decide +kernel
theorem dX6_live_28 : decode cX6_live 28 = .ok (.iaload, 1) := by decide +kernel
theorem dX6_live_29 : decode cX6_live 29 = .ok (.istore_n 2, 1) := by decide +kernel
theorem dX6_live_30 : decode cX6_live 30 = .ok (.iload_n 1, 1) := by decide +kernel
theorem dX6_live_31 : decode cX6_live 31 = .ok (.ifCond .ne 16, 3) := by decide +kernel
theorem dX6_live_34 : decode cX6_live 34 = .ok (.iload_n 2, 1) := by decide +kernel
theorem dX6_live_35 : decode cX6_live 35 = .ok (.bipush 24, 2) := by decide +kernel
theorem dX6_live_37 : decode cX6_live 37 = .ok (.iushr, 1) := by decide +kernel
theorem dX6_live_38 : decode cX6_live 38 = .ok (.bipush 12, 2) := by decide +kernel
theorem dX6_live_40 : decode cX6_live 40 = .ok (.if_icmp .ne 7, 3) := by decide +kernel
theorem dX6_live_43 : decode cX6_live 43 = .ok (.iconst 1, 1) := by decide +kernel
theorem dX6_live_44 : decode cX6_live 44 = .ok (.goto 4, 3) := by decide +kernel
theorem dX6_live_47 : decode cX6_live 47 = .ok (.iconst 0, 1) := by decide +kernel
theorem dX6_live_48 : decode cX6_live 48 = .ok (.istore_n 3, 1) := by decide +kernel
theorem dX6_live_49 : decode cX6_live 49 = .ok (.iload_n 1, 1) := by decide +kernel
theorem dX6_live_50 : decode cX6_live 50 = .ok (.ifCond .ne 10, 3) := by decide +kernel
theorem dX6_live_53 : decode cX6_live 53 = .ok (.iload_n 2, 1) := by decide +kernel
theorem dX6_live_54 : decode cX6_live 54 = .ok (.bipush 24, 2) := by decide +kernel
theorem dX6_live_56 : decode cX6_live 56 = .ok (.iushr, 1) := by decide +kernel
theorem dX6_live_57 : decode cX6_live 57 = .ok (.ifCond .eq 14, 3) := by decide +kernel
theorem dX6_live_60 : decode cX6_live 60 = .ok (.iload_n 3, 1) := by decide +kernel
theorem dX6_live_61 : decode cX6_live 61 = .ok (.ifCond .eq 12, 3) := by decide +kernel
theorem dX6_live_64 : decode cX6_live 64 = .ok (.aload_n 0, 1) := by decide +kernel
theorem dX6_live_65 : decode cX6_live 65 = .ok (.getfield 80, 3) := by decide +kernel
theorem dX6_live_68 : decode cX6_live 68 = .ok (.ifCond .ne 5, 3) := by decide +kernel
theorem dX6_live_71 : decode cX6_live 71 = .ok (.iconst 0, 1) := by decide +kernel
theorem dX6_live_72 : decode cX6_live 72 = .ok (.ireturn, 1) := by decide +kernel
theorem dX6_live_73 : decode cX6_live 73 = .ok (.iload_n 1, 1) := by decide +kernel
theorem dX6_live_74 : decode cX6_live 74 = .ok (.ifCond .ne 7, 3) := by decide +kernel
theorem dX6_live_77 : decode cX6_live 77 = .ok (.iload_n 3, 1) := by decide +kernel
theorem dX6_live_78 : decode cX6_live 78 = .ok (.ifCond .eq 13, 3) := by decide +kernel
theorem dX6_live_81 : decode cX6_live 81 = .ok (.aload_n 0, 1) := by decide +kernel
theorem dX6_live_82 : decode cX6_live 82 = .ok (.getfield 74, 3) := by decide +kernel
theorem dX6_live_85 : decode cX6_live 85 = .ok (.sipush 300, 3) := by decide +kernel
theorem dX6_live_88 : decode cX6_live 88 = .ok (.if_icmp .eq 12, 3) := by decide +kernel
theorem dX6_live_91 : decode cX6_live 91 = .ok (.aload_n 0, 1) := by decide +kernel
theorem dX6_live_92 : decode cX6_live 92 = .ok (.iload_n 1, 1) := by decide +kernel
theorem dX6_live_93 : decode cX6_live 93 = .ok (.iload_n 2, 1) := by decide +kernel
theorem dX6_live_94 : decode cX6_live 94 = .ok (.invokevirtual 123, 3) := by decide +kernel
theorem dX6_live_97 : decode cX6_live 97 = .ok (.ifCond .eq 5, 3) := by decide +kernel
theorem dX6_live_100 : decode cX6_live 100 = .ok (.iconst 0, 1) := by decide +kernel
theorem dX6_live_101 : decode cX6_live 101 = .ok (.ireturn, 1) := by decide +kernel
theorem dX6_live_102 : decode cX6_live 102 = .ok (.iload_n 3, 1) := by decide +kernel
theorem dX6_live_103 : decode cX6_live 103 = .ok (.ifCond .eq 10, 3) := by decide +kernel
theorem dX6_live_106 : decode cX6_live 106 = .ok (.aload_n 0, 1) := by decide +kernel
theorem dX6_live_107 : decode cX6_live 107 = .ok (.invokevirtual 127, 3) := by decide +kernel
theorem dX6_live_110 : decode cX6_live 110 = .ok (.goto 4, 3) := by decide +kernel
theorem dX6_live_113 : decode cX6_live 113 = .ok (.iconst 0, 1) := by decide +kernel
theorem dX6_live_114 : decode cX6_live 114 = .ok (.istore 4, 2) := by decide +kernel
theorem dX6_live_116 : decode cX6_live 116 = .ok (.iload_n 1, 1) := by decide +kernel
theorem dX6_live_117 : decode cX6_live 117 = .ok (.ifCond .ne 7, 3) := by decide +kernel
theorem dX6_live_120 : decode cX6_live 120 = .ok (.iload_n 3, 1) := by decide +kernel
theorem dX6_live_121 : decode cX6_live 121 = .ok (.ifCond .eq 18, 3) := by decide +kernel
theorem dX6_live_124 : decode cX6_live 124 = .ok (.aload_n 0, 1) := by decide +kernel
theorem dX6_live_125 : decode cX6_live 125 = .ok (.iload_n 1, 1) := by decide +kernel
theorem dX6_live_126 : decode cX6_live 126 = .ok (.ifCond .eq 7, 3) := by decide +kernel
theorem dX6_live_129 : decode cX6_live 129 = .ok (.iconst 2, 1) := by decide +kernel
theorem dX6_live_130 : decode cX6_live 130 = .ok (.goto 4, 3) := by decide +kernel
theorem dX6_live_133 : decode cX6_live 133 = .ok (.iconst 1, 1) := by decide +kernel
theorem dX6_live_134 : decode cX6_live 134 = .ok (.iload 4, 2) := by decide +kernel
theorem dX6_live_136 : decode cX6_live 136 = .ok (.invokevirtual 130, 3) := by decide +kernel
theorem dX6_live_139 : decode cX6_live 139 = .ok (.iload_n 1, 1) := by decide +kernel
theorem dX6_live_140 : decode cX6_live 140 = .ok (.ifCond .eq 15, 3) := by decide +kernel
theorem dX6_live_143 : decode cX6_live 143 = .ok (.aload_n 0, 1) := by decide +kernel
theorem dX6_live_144 : decode cX6_live 144 = .ok (.iconst 0, 1) := by decide +kernel
theorem dX6_live_145 : decode cX6_live 145 = .ok (.putfield 83, 3) := by decide +kernel
theorem dX6_live_148 : decode cX6_live 148 = .ok (.aload_n 0, 1) := by decide +kernel
theorem dX6_live_149 : decode cX6_live 149 = .ok (.invokevirtual 107, 3) := by decide +kernel
theorem dX6_live_152 : decode cX6_live 152 = .ok (.goto 10, 3) := by decide +kernel
theorem dX6_live_155 : decode cX6_live 155 = .ok (.aload_n 0, 1) := by decide +kernel
theorem dX6_live_156 : decode cX6_live 156 = .ok (.iload_n 2, 1) := by decide +kernel
theorem dX6_live_157 : decode cX6_live 157 = .ok (.iload 4, 2) := by decide +kernel
theorem dX6_live_159 : decode cX6_live 159 = .ok (.invokevirtual 110, 3) := by decide +kernel
theorem dX6_live_162 : decode cX6_live 162 = .ok (.aload_n 0, 1) := by decide +kernel
theorem dX6_live_163 : decode cX6_live 163 = .ok (.dup, 1) := by decide +kernel
theorem dX6_live_164 : decode cX6_live 164 = .ok (.getfield 71, 3) := by decide +kernel
theorem dX6_live_167 : decode cX6_live 167 = .ok (.iconst 1, 1) := by decide +kernel
theorem dX6_live_168 : decode cX6_live 168 = .ok (.iadd, 1) := by decide +kernel
theorem dX6_live_169 : decode cX6_live 169 = .ok (.putfield 71, 3) := by decide +kernel
theorem dX6_live_172 : decode cX6_live 172 = .ok (.aload_n 0, 1) := by decide +kernel
theorem dX6_live_173 : decode cX6_live 173 = .ok (.getfield 71, 3) := by decide +kernel
theorem dX6_live_176 : decode cX6_live 176 = .ok (.aload_n 0, 1) := by decide +kernel
theorem dX6_live_177 : decode cX6_live 177 = .ok (.getfield 41, 3) := by decide +kernel
theorem dX6_live_180 : decode cX6_live 180 = .ok (.irem, 1) := by decide +kernel
theorem dX6_live_181 : decode cX6_live 181 = .ok (.ifCond .ne 26, 3) := by decide +kernel
theorem dX6_live_184 : decode cX6_live 184 = .ok (.aload_n 0, 1) := by decide +kernel
theorem dX6_live_185 : decode cX6_live 185 = .ok (.getfield 31, 3) := by decide +kernel
theorem dX6_live_188 : decode cX6_live 188 = .ok (.aload_n 0, 1) := by decide +kernel
theorem dX6_live_189 : decode cX6_live 189 = .ok (.getfield 77, 3) := by decide +kernel
theorem dX6_live_192 : decode cX6_live 192 = .ok (.aload_n 0, 1) := by decide +kernel
theorem dX6_live_193 : decode cX6_live 193 = .ok (.invokevirtual 116, 3) := by decide +kernel
theorem dX6_live_196 : decode cX6_live 196 = .ok (.iastore, 1) := by decide +kernel
theorem dX6_live_197 : decode cX6_live 197 = .ok (.aload_n 0, 1) := by decide +kernel
theorem dX6_live_198 : decode cX6_live 198 = .ok (.dup, 1) := by decide +kernel
theorem dX6_live_199 : decode cX6_live 199 = .ok (.getfield 77, 3) := by decide +kernel
theorem dX6_live_202 : decode cX6_live 202 = .ok (.iconst 1, 1) := by decide +kernel
theorem dX6_live_203 : decode cX6_live 203 = .ok (.iadd, 1) := by decide +kernel
theorem dX6_live_204 : decode cX6_live 204 = .ok (.putfield 77, 3) := by decide +kernel
theorem dX6_live_207 : decode cX6_live 207 = .ok (.aload_n 0, 1) := by decide +kernel
theorem dX6_live_208 : decode cX6_live 208 = .ok (.invokevirtual 113, 3) := by decide +kernel
theorem dX6_live_211 : decode cX6_live 211 = .ok (.iconst 1, 1) := by decide +kernel
theorem dX6_live_212 : decode cX6_live 212 = .ok (.ireturn, 1) := by decide +kernel
set_option maxRecDepth 20000 in
theorem ggX6_step_X6_again : GoodIn wsX6_step wsX6_again := goodIn_r _ [8, 9, 10, 11, 2, 12, 13, 14, 15, 16, 17, 18, 7, 19, 20, 21, 22, 23, 24, 25, 26, 27, 28, 29, 30, 31, 32, 33, 34, 35, 36, 37, 38, 39, 40, 41, 42, 43, 44, 45, 46, 47, 48, 49, 50, 51, 52, 53, 54, 84, 85, 86, 87, 88, 89, 90, 91, 92, 93, 94, 95, 96, 97, 98, 99, 100, 101, 102, 103, 104, 105, 106] (by decide +kernel) (by decide +kernel)
set_option maxRecDepth 20000 in
theorem gX6_step_X6_again : GoodIn wsX6_step (wsV RX6 133 RX6 yX6_again wsX6_again) := goodIn_app (goodIn_of _ (by decide +kernel)) ggX6_step_X6_again
set_option maxRecDepth 20000 in
theorem ggX6_step_X6_live : GoodIn wsX6_step wsX6_live := goodIn_r _ [58, 59, 21, 14, 15, 60, 10, 3, 54, 61, 62, 63, 64, 65, 7, 66, 43, 67, 68, 69, 70, 35, 36, 37, 38, 30, 71, 72, 73, 74, 75, 76, 77, 78, 79, 80, 81, 82, 83, 11, 2, 13, 12, 9, 16, 17, 18, 19, 20, 22, 23, 24, 25, 26, 27, 28, 29, 31, 32, 33, 34, 39, 40, 41, 42, 44, 45, 46, 47, 48, 49, 50, 51, 52, 53, 84, 85, 86, 87, 88, 89, 90, 91, 92, 93, 94, 95, 96, 97, 98, 99, 100, 101, 102, 103, 104, 105, 106] (by decide +kernel) (by decide +kernel)
set_option maxRecDepth 20000 in
theorem gX6_step_X6_live : GoodIn wsX6_step (wsV RX6 136 RX6 yX6_live wsX6_live) := goodIn_app (goodIn_of _ (by decide +kernel)) ggX6_step_X6_live
theorem dX6_step_0 : decode cX6_step 0 = .ok (.aload_n 0, 1) := by decide +kernel
theorem dX6_step_1 : decode cX6_step 1 = .ok (.getfield 45, 3) := by decide +kernel
theorem dX6_step_4 : decode cX6_step 4 = .ok (.ifCond .ne 5, 3) := by decide +kernel
theorem dX6_step_7 : decode cX6_step 7 = .ok (.iconst (-1), 1) := by decide +kernel
theorem dX6_step_8 : decode cX6_step 8 = .ok (.ireturn, 1) := by decide +kernel
theorem dX6_step_9 : decode cX6_step 9 = .ok (.iload_n 1, 1) := by decide +kernel
theorem dX6_step_10 : decode cX6_step 10 = .ok (.sipush 10000, 3) := by decide +kernel
theorem dX6_step_13 : decode cX6_step 13 = .ok (.if_icmp .le 9, 3) := by decide +kernel
theorem dX6_step_16 : decode cX6_step 16 = .ok (.sipush 10000, 3) := by decide +kernel
theorem dX6_step_19 : decode cX6_step 19 = .ok (.goto 4, 3) := by decide +kernel
theorem dX6_step_22 : decode cX6_step 22 = .ok (.iload_n 1, 1) := by decide +kernel
theorem dX6_step_23 : decode cX6_step 23 = .ok (.istore_n 2, 1) := by decide +kernel
theorem dX6_step_24 : decode cX6_step 24 = .ok (.iconst 0, 1) := by decide +kernel
theorem dX6_step_25 : decode cX6_step 25 = .ok (.istore_n 3, 1) := by decide +kernel
theorem dX6_step_26 : decode cX6_step 26 = .ok (.iconst 1, 1) := by decide +kernel
theorem dX6_step_27 : decode cX6_step 27 = .ok (.istore 4, 2) := by decide +kernel
theorem dX6_step_29 : decode cX6_step 29 = .ok (.iload 4, 2) := by decide +kernel
theorem dX6_step_31 : decode cX6_step 31 = .ok (.ifCond .eq 48, 3) := by decide +kernel
theorem dX6_step_34 : decode cX6_step 34 = .ok (.iload_n 3, 1) := by decide +kernel
theorem dX6_step_35 : decode cX6_step 35 = .ok (.iload_n 2, 1) := by decide +kernel
theorem dX6_step_36 : decode cX6_step 36 = .ok (.if_icmp .ge 43, 3) := by decide +kernel
theorem dX6_step_39 : decode cX6_step 39 = .ok (.aload_n 0, 1) := by decide +kernel
theorem dX6_step_40 : decode cX6_step 40 = .ok (.getfield 65, 3) := by decide +kernel
theorem dX6_step_43 : decode cX6_step 43 = .ok (.aload_n 0, 1) := by decide +kernel
theorem dX6_step_44 : decode cX6_step 44 = .ok (.getfield 71, 3) := by decide +kernel
theorem dX6_step_47 : decode cX6_step 47 = .ok (.if_icmp .ge 10, 3) := by decide +kernel
theorem dX6_step_50 : decode cX6_step 50 = .ok (.aload_n 0, 1) := by decide +kernel
theorem dX6_step_51 : decode cX6_step 51 = .ok (.invokevirtual 133, 3) := by decide +kernel
theorem dX6_step_54 : decode cX6_step 54 = .ok (.goto 9, 3) := by decide +kernel
theorem dX6_step_57 : decode cX6_step 57 = .ok (.aload_n 0, 1) := by decide +kernel
theorem dX6_step_58 : decode cX6_step 58 = .ok (.invokevirtual 136, 3) := by decide +kernel
theorem dX6_step_61 : decode cX6_step 61 = .ok (.istore 4, 2) := by decide +kernel
theorem dX6_step_63 : decode cX6_step 63 = .ok (.iload_n 3, 1) := by decide +kernel
theorem dX6_step_64 : decode cX6_step 64 = .ok (.iload 4, 2) := by decide +kernel
theorem dX6_step_66 : decode cX6_step 66 = .ok (.ifCond .eq 7, 3) := by decide +kernel
theorem dX6_step_69 : decode cX6_step 69 = .ok (.iconst 1, 1) := by decide +kernel
theorem dX6_step_70 : decode cX6_step 70 = .ok (.goto 4, 3) := by decide +kernel
theorem dX6_step_73 : decode cX6_step 73 = .ok (.iconst 0, 1) := by decide +kernel
theorem dX6_step_74 : decode cX6_step 74 = .ok (.iadd, 1) := by decide +kernel
theorem dX6_step_75 : decode cX6_step 75 = .ok (.istore_n 3, 1) := by decide +kernel
theorem dX6_step_76 : decode cX6_step 76 = .ok (.goto (-47), 3) := by decide +kernel
theorem dX6_step_79 : decode cX6_step 79 = .ok (.iload_n 3, 1) := by decide +kernel
theorem dX6_step_80 : decode cX6_step 80 = .ok (.ireturn, 1) := by decide +kernel
theorem dX6_isThere_0 : decode cX6_isThere 0 = .ok (.aload_n 0, 1) := by decide +kernel
theorem dX6_isThere_1 : decode cX6_isThere 1 = .ok (.getfield 45, 3) := by decide +kernel
theorem dX6_isThere_4 : decode cX6_isThere 4 = .ok (.ifCond .eq 19, 3) := by decide +kernel
theorem dX6_isThere_7 : decode cX6_isThere 7 = .ok (.iload_n 1, 1) := by decide +kernel
theorem dX6_isThere_8 : decode cX6_isThere 8 = .ok (.ifCond .lt 15, 3) := by decide +kernel
theorem dX6_isThere_11 : decode cX6_isThere 11 = .ok (.iload_n 1, 1) := by decide +kernel
theorem dX6_isThere_12 : decode cX6_isThere 12 = .ok (.aload_n 0, 1) := by decide +kernel
theorem dX6_isThere_13 : decode cX6_isThere 13 = .ok (.getfield 71, 3) := by decide +kernel
theorem dX6_isThere_16 : decode cX6_isThere 16 = .ok (.if_icmp .gt 7, 3) := by decide +kernel
theorem dX6_isThere_19 : decode cX6_isThere 19 = .ok (.iconst 1, 1) := by decide +kernel
theorem dX6_isThere_20 : decode cX6_isThere 20 = .ok (.goto 4, 3) := by decide +kernel
theorem dX6_isThere_23 : decode cX6_isThere 23 = .ok (.iconst 0, 1) := by decide +kernel
theorem dX6_isThere_24 : decode cX6_isThere 24 = .ok (.ireturn, 1) := by decide +kernel
set_option maxRecDepth 20000 in
theorem ggX6_go_X6_isThere : GoodIn wsX6_go wsX6_isThere := goodIn_r _ [6, 7, 8, 64, 65, 66, 67, 68, 69, 70, 71, 72, 73, 74, 75, 76, 77, 78, 79, 80, 81, 82, 83, 84, 85, 86] (by decide +kernel) (by decide +kernel)
set_option maxRecDepth 20000 in
theorem gX6_go_X6_isThere : GoodIn wsX6_go (wsV RX6 140 RX6 yX6_isThere wsX6_isThere) := goodIn_app (goodIn_of _ (by decide +kernel)) ggX6_go_X6_isThere
set_option maxRecDepth 20000 in
theorem ggX6_go_X6_rewind : GoodIn wsX6_go wsX6_rewind := goodIn_r _ [12, 13, 14, 15, 16, 17, 18, 19, 20, 1, 21, 64, 65, 66, 67, 68, 69, 70, 71, 72, 73, 74, 75, 76, 77, 78, 79, 80, 81, 82, 83, 84, 85, 86] (by decide +kernel) (by decide +kernel)
set_option maxRecDepth 20000 in
theorem gX6_go_X6_rewind : GoodIn wsX6_go (wsV RX6 86 RX6 yX6_rewind wsX6_rewind) := goodIn_app (goodIn_of _ (by decide +kernel)) ggX6_go_X6_rewind
set_option maxRecDepth 20000 in
theorem ggX6_go_X6_again : GoodIn wsX6_go wsX6_again := goodIn_r _ [25, 21, 26, 27, 1, 28, 29, 13, 17, 30, 31, 32, 5, 33, 18, 19, 34, 35, 36, 37, 38, 39, 40, 41, 15, 42, 43, 44, 45, 46, 47, 48, 49, 50, 51, 52, 53, 16, 54, 55, 56, 57, 20, 58, 59, 60, 61, 62, 63, 64, 65, 66, 67, 68, 69, 70, 71, 72, 73, 74, 75, 76, 77, 78, 79, 80, 81, 82, 83, 84, 85, 86] (by decide +kernel) (by decide +kernel)
set_option maxRecDepth 20000 in
theorem gX6_go_X6_again : GoodIn wsX6_go (wsV RX6 133 RX6 yX6_again wsX6_again) := goodIn_app (goodIn_of _ (by decide +kernel)) ggX6_go_X6_again
theorem dX6_go_0 : decode cX6_go 0 = .ok (.aload_n 0, 1) := by decide +kernel
theorem dX6_go_1 : decode cX6_go 1 = .ok (.iload_n 1, 1) := by decide +kernel
theorem dX6_go_2 : decode cX6_go 2 = .ok (.invokevirtual 140, 3) := by decide +kernel
theorem dX6_go_5 : decode cX6_go 5 = .ok (.ifCond .ne 5, 3) := by decide +kernel
theorem dX6_go_8 : decode cX6_go 8 = .ok (.iconst 0, 1) := by decide +kernel
theorem dX6_go_9 : decode cX6_go 9 = .ok (.ireturn, 1) := by decide +kernel
theorem dX6_go_10 : decode cX6_go 10 = .ok (.aload_n 0, 1) := by decide +kernel
theorem dX6_go_11 : decode cX6_go 11 = .ok (.invokevirtual 86, 3) := by decide +kernel
theorem dX6_go_14 : decode cX6_go 14 = .ok (.aload_n 0, 1) := by decide +kernel
theorem dX6_go_15 : decode cX6_go 15 = .ok (.getfield 65, 3) := by decide +kernel
theorem dX6_go_18 : decode cX6_go 18 = .ok (.iload_n 1, 1) := by decide +kernel
theorem dX6_go_19 : decode cX6_go 19 = .ok (.if_icmp .ge 10, 3) := by decide +kernel
theorem dX6_go_22 : decode cX6_go 22 = .ok (.aload_n 0, 1) := by decide +kernel
theorem dX6_go_23 : decode cX6_go 23 = .ok (.invokevirtual 133, 3) := by decide +kernel
theorem dX6_go_26 : decode cX6_go 26 = .ok (.goto (-12), 3) := by decide +kernel
theorem dX6_go_29 : decode cX6_go 29 = .ok (.iconst 1, 1) := by decide +kernel
theorem dX6_go_30 : decode cX6_go 30 = .ok (.ireturn, 1) := by decide +kernel
set_option maxRecDepth 20000 in
theorem ggX6_far_X6_isThere : GoodIn wsX6_far wsX6_isThere := goodIn_r _ [6, 7, 8, 9, 10, 11, 12, 13, 14, 15, 16, 17, 18, 19, 20, 21, 22, 23, 24, 25, 26, 27, 28, 29, 30, 31] (by decide +kernel) (by decide +kernel)
set_option maxRecDepth 20000 in
theorem gX6_far_X6_isThere : GoodIn wsX6_far (wsV RX6 140 RX6 yX6_isThere wsX6_isThere) := goodIn_app (goodIn_of _ (by decide +kernel)) ggX6_far_X6_isThere
theorem dX6_far_0 : decode cX6_far 0 = .ok (.aload_n 0, 1) := by decide +kernel
theorem dX6_far_1 : decode cX6_far 1 = .ok (.iload_n 1, 1) := by decide +kernel
theorem dX6_far_2 : decode cX6_far 2 = .ok (.invokevirtual 140, 3) := by decide +kernel
theorem dX6_far_5 : decode cX6_far 5 = .ok (.ifCond .eq 12, 3) := by decide +kernel
theorem dX6_far_8 : decode cX6_far 8 = .ok (.iload_n 1, 1) := by decide +kernel
theorem dX6_far_9 : decode cX6_far 9 = .ok (.aload_n 0, 1) := by decide +kernel
theorem dX6_far_10 : decode cX6_far 10 = .ok (.getfield 41, 3) := by decide +kernel
theorem dX6_far_13 : decode cX6_far 13 = .ok (.irem, 1) := by decide +kernel
theorem dX6_far_14 : decode cX6_far 14 = .ok (.goto 4, 3) := by decide +kernel
theorem dX6_far_17 : decode cX6_far 17 = .ok (.iconst (-1), 1) := by decide +kernel
theorem dX6_far_18 : decode cX6_far 18 = .ok (.ireturn, 1) := by decide +kernel
theorem dX6_cut_0 : decode cX6_cut 0 = .ok (.aload_n 0, 1) := by decide +kernel
theorem dX6_cut_1 : decode cX6_cut 1 = .ok (.getfield 45, 3) := by decide +kernel
theorem dX6_cut_4 : decode cX6_cut 4 = .ok (.ifCond .ne 5, 3) := by decide +kernel
theorem dX6_cut_7 : decode cX6_cut 7 = .ok (.iconst (-1), 1) := by decide +kernel
theorem dX6_cut_8 : decode cX6_cut 8 = .ok (.ireturn, 1) := by decide +kernel
theorem dX6_cut_9 : decode cX6_cut 9 = .ok (.aload_n 0, 1) := by decide +kernel
theorem dX6_cut_10 : decode cX6_cut 10 = .ok (.aload_n 0, 1) := by decide +kernel
theorem dX6_cut_11 : decode cX6_cut 11 = .ok (.getfield 65, 3) := by decide +kernel
theorem dX6_cut_14 : decode cX6_cut 14 = .ok (.putfield 71, 3) := by decide +kernel
theorem dX6_cut_17 : decode cX6_cut 17 = .ok (.aload_n 0, 1) := by decide +kernel
theorem dX6_cut_18 : decode cX6_cut 18 = .ok (.aload_n 0, 1) := by decide +kernel
theorem dX6_cut_19 : decode cX6_cut 19 = .ok (.getfield 68, 3) := by decide +kernel
theorem dX6_cut_22 : decode cX6_cut 22 = .ok (.putfield 74, 3) := by decide +kernel
theorem dX6_cut_25 : decode cX6_cut 25 = .ok (.aload_n 0, 1) := by decide +kernel
theorem dX6_cut_26 : decode cX6_cut 26 = .ok (.aload_n 0, 1) := by decide +kernel
theorem dX6_cut_27 : decode cX6_cut 27 = .ok (.getfield 65, 3) := by decide +kernel
theorem dX6_cut_30 : decode cX6_cut 30 = .ok (.aload_n 0, 1) := by decide +kernel
theorem dX6_cut_31 : decode cX6_cut 31 = .ok (.getfield 41, 3) := by decide +kernel
theorem dX6_cut_34 : decode cX6_cut 34 = .ok (.idiv, 1) := by decide +kernel
theorem dX6_cut_35 : decode cX6_cut 35 = .ok (.iconst 1, 1) := by decide +kernel
theorem dX6_cut_36 : decode cX6_cut 36 = .ok (.iadd, 1) := by decide +kernel
theorem dX6_cut_37 : decode cX6_cut 37 = .ok (.putfield 77, 3) := by decide +kernel
theorem dX6_cut_40 : decode cX6_cut 40 = .ok (.aload_n 0, 1) := by decide +kernel
theorem dX6_cut_41 : decode cX6_cut 41 = .ok (.getfield 74, 3) := by decide +kernel
theorem dX6_cut_44 : decode cX6_cut 44 = .ok (.ireturn, 1) := by decide +kernel
set_option maxRecDepth 20000 in
theorem ggX6_record_X6_allPages : GoodIn wsX6_record wsX6_allPages := goodIn_r _ [12, 5, 13, 14, 15, 16, 17, 18, 19, 20, 21, 22, 23, 24, 25, 26, 27, 28, 29, 30, 31, 32, 33, 34, 35, 36] (by decide +kernel) (by decide +kernel)
set_option maxRecDepth 20000 in
theorem gX6_record_X6_allPages : GoodIn wsX6_record (wsV RX6 120 RX6 yX6_allPages wsX6_allPages) := goodIn_app (goodIn_of _ (by decide +kernel)) ggX6_record_X6_allPages
theorem dX6_record_0 : decode cX6_record 0 = .ok (.aload_n 0, 1) := by decide +kernel
theorem dX6_record_1 : decode cX6_record 1 = .ok (.getfield 45, 3) := by decide +kernel
theorem dX6_record_4 : decode cX6_record 4 = .ok (.ifCond .ne 5, 3) := by decide +kernel
theorem dX6_record_7 : decode cX6_record 7 = .ok (.iconst (-1), 1) := by decide +kernel
theorem dX6_record_8 : decode cX6_record 8 = .ok (.ireturn, 1) := by decide +kernel
theorem dX6_record_9 : decode cX6_record 9 = .ok (.iload_n 1, 1) := by decide +kernel
theorem dX6_record_10 : decode cX6_record 10 = .ok (.tableswitch 85 0 6 #[42, 47, 52, 57, 62, 67, 72], 42) := by decide +kernel
theorem dX6_record_52 : decode cX6_record 52 = .ok (.aload_n 0, 1) := by decide +kernel
theorem dX6_record_53 : decode cX6_record 53 = .ok (.getfield 65, 3) := by decide +kernel
theorem dX6_record_56 : decode cX6_record 56 = .ok (.ireturn, 1) := by decide +kernel
theorem dX6_record_57 : decode cX6_record 57 = .ok (.aload_n 0, 1) := by decide +kernel
theorem dX6_record_58 : decode cX6_record 58 = .ok (.getfield 71, 3) := by decide +kernel
theorem dX6_record_61 : decode cX6_record 61 = .ok (.ireturn, 1) := by decide +kernel
theorem dX6_record_62 : decode cX6_record 62 = .ok (.aload_n 0, 1) := by decide +kernel
theorem dX6_record_63 : decode cX6_record 63 = .ok (.getfield 74, 3) := by decide +kernel
theorem dX6_record_66 : decode cX6_record 66 = .ok (.ireturn, 1) := by decide +kernel
theorem dX6_record_67 : decode cX6_record 67 = .ok (.aload_n 0, 1) := by decide +kernel
theorem dX6_record_68 : decode cX6_record 68 = .ok (.getfield 77, 3) := by decide +kernel
theorem dX6_record_71 : decode cX6_record 71 = .ok (.ireturn, 1) := by decide +kernel
theorem dX6_record_72 : decode cX6_record 72 = .ok (.aload_n 0, 1) := by decide +kernel
theorem dX6_record_73 : decode cX6_record 73 = .ok (.invokevirtual 120, 3) := by decide +kernel
theorem dX6_record_76 : decode cX6_record 76 = .ok (.ireturn, 1) := by decide +kernel
theorem dX6_record_77 : decode cX6_record 77 = .ok (.aload_n 0, 1) := by decide +kernel
theorem dX6_record_78 : decode cX6_record 78 = .ok (.getfield 80, 3) := by decide +kernel
theorem dX6_record_81 : decode cX6_record 81 = .ok (.ireturn, 1) := by decide +kernel
theorem dX6_record_82 : decode cX6_record 82 = .ok (.aload_n 0, 1) := by decide +kernel
theorem dX6_record_83 : decode cX6_record 83 = .ok (.getfield 83, 3) := by decide +kernel
theorem dX6_record_86 : decode cX6_record 86 = .ok (.ifCond .eq 7, 3) := by decide +kernel
theorem dX6_record_89 : decode cX6_record 89 = .ok (.iconst 1, 1) := by decide +kernel
theorem dX6_record_90 : decode cX6_record 90 = .ok (.goto 4, 3) := by decide +kernel
theorem dX6_record_93 : decode cX6_record 93 = .ok (.iconst 0, 1) := by decide +kernel
theorem dX6_record_94 : decode cX6_record 94 = .ok (.ireturn, 1) := by decide +kernel
theorem dX6_record_95 : decode cX6_record 95 = .ok (.iconst (-1), 1) := by decide +kernel
theorem dX6_record_96 : decode cX6_record 96 = .ok (.ireturn, 1) := by decide +kernel
theorem dX6_pages_0 : decode cX6_pages 0 = .ok (.aload_n 0, 1) := by decide +kernel
theorem dX6_pages_1 : decode cX6_pages 1 = .ok (.getfield 45, 3) := by decide +kernel
theorem dX6_pages_4 : decode cX6_pages 4 = .ok (.ifCond .eq 24, 3) := by decide +kernel
theorem dX6_pages_7 : decode cX6_pages 7 = .ok (.iload_n 1, 1) := by decide +kernel
theorem dX6_pages_8 : decode cX6_pages 8 = .ok (.ifCond .lt 20, 3) := by decide +kernel
theorem dX6_pages_11 : decode cX6_pages 11 = .ok (.iload_n 1, 1) := by decide +kernel
theorem dX6_pages_12 : decode cX6_pages 12 = .ok (.aload_n 0, 1) := by decide +kernel
theorem dX6_pages_13 : decode cX6_pages 13 = .ok (.getfield 77, 3) := by decide +kernel
theorem dX6_pages_16 : decode cX6_pages 16 = .ok (.if_icmp .ge 12, 3) := by decide +kernel
theorem dX6_pages_19 : decode cX6_pages 19 = .ok (.aload_n 0, 1) := by decide +kernel
theorem dX6_pages_20 : decode cX6_pages 20 = .ok (.getfield 31, 3) := by decide +kernel
theorem dX6_pages_23 : decode cX6_pages 23 = .ok (.iload_n 1, 1) := by decide +kernel
theorem dX6_pages_24 : decode cX6_pages 24 = .ok (.iaload, 1) := by decide +kernel
theorem dX6_pages_25 : decode cX6_pages 25 = .ok (.goto 4, 3) := by decide +kernel
theorem dX6_pages_28 : decode cX6_pages 28 = .ok (.iconst (-1), 1) := by decide +kernel
theorem dX6_pages_29 : decode cX6_pages 29 = .ok (.ireturn, 1) := by decide +kernel
theorem dX6_log_0 : decode cX6_log 0 = .ok (.aload_n 0, 1) := by decide +kernel
theorem dX6_log_1 : decode cX6_log 1 = .ok (.getfield 45, 3) := by decide +kernel
theorem dX6_log_4 : decode cX6_log 4 = .ok (.ifCond .eq 15, 3) := by decide +kernel
theorem dX6_log_7 : decode cX6_log 7 = .ok (.iload_n 1, 1) := by decide +kernel
theorem dX6_log_8 : decode cX6_log 8 = .ok (.ifCond .lt 11, 3) := by decide +kernel
theorem dX6_log_11 : decode cX6_log 11 = .ok (.iload_n 1, 1) := by decide +kernel
theorem dX6_log_12 : decode cX6_log 12 = .ok (.aload_n 0, 1) := by decide +kernel
theorem dX6_log_13 : decode cX6_log 13 = .ok (.getfield 74, 3) := by decide +kernel
theorem dX6_log_16 : decode cX6_log 16 = .ok (.if_icmp .lt 5, 3) := by decide +kernel
theorem dX6_log_19 : decode cX6_log 19 = .ok (.iconst (-1), 1) := by decide +kernel
theorem dX6_log_20 : decode cX6_log 20 = .ok (.ireturn, 1) := by decide +kernel
theorem dX6_log_21 : decode cX6_log 21 = .ok (.iload_n 2, 1) := by decide +kernel
theorem dX6_log_22 : decode cX6_log 22 = .ok (.ifCond .ne 12, 3) := by decide +kernel
theorem dX6_log_25 : decode cX6_log 25 = .ok (.aload_n 0, 1) := by decide +kernel
theorem dX6_log_26 : decode cX6_log 26 = .ok (.getfield 22, 3) := by decide +kernel
theorem dX6_log_29 : decode cX6_log 29 = .ok (.iload_n 1, 1) := by decide +kernel
theorem dX6_log_30 : decode cX6_log 30 = .ok (.iaload, 1) := by decide +kernel
theorem dX6_log_31 : decode cX6_log 31 = .ok (.goto 32, 3) := by decide +kernel
theorem dX6_log_34 : decode cX6_log 34 = .ok (.iload_n 2, 1) := by decide +kernel
theorem dX6_log_35 : decode cX6_log 35 = .ok (.iconst 1, 1) := by decide +kernel
theorem dX6_log_36 : decode cX6_log 36 = .ok (.if_icmp .ne 12, 3) := by decide +kernel
theorem dX6_log_39 : decode cX6_log 39 = .ok (.aload_n 0, 1) := by decide +kernel
theorem dX6_log_40 : decode cX6_log 40 = .ok (.getfield 25, 3) := by decide +kernel
theorem dX6_log_43 : decode cX6_log 43 = .ok (.iload_n 1, 1) := by decide +kernel
theorem dX6_log_44 : decode cX6_log 44 = .ok (.iaload, 1) := by decide +kernel
theorem dX6_log_45 : decode cX6_log 45 = .ok (.goto 18, 3) := by decide +kernel
theorem dX6_log_48 : decode cX6_log 48 = .ok (.iload_n 2, 1) := by decide +kernel
theorem dX6_log_49 : decode cX6_log 49 = .ok (.iconst 2, 1) := by decide +kernel
theorem dX6_log_50 : decode cX6_log 50 = .ok (.if_icmp .ne 12, 3) := by decide +kernel
theorem dX6_log_53 : decode cX6_log 53 = .ok (.aload_n 0, 1) := by decide +kernel
theorem dX6_log_54 : decode cX6_log 54 = .ok (.getfield 28, 3) := by decide +kernel
theorem dX6_log_57 : decode cX6_log 57 = .ok (.iload_n 1, 1) := by decide +kernel
theorem dX6_log_58 : decode cX6_log 58 = .ok (.iaload, 1) := by decide +kernel
theorem dX6_log_59 : decode cX6_log 59 = .ok (.goto 4, 3) := by decide +kernel
theorem dX6_log_62 : decode cX6_log 62 = .ok (.iconst (-1), 1) := by decide +kernel
theorem dX6_log_63 : decode cX6_log 63 = .ok (.ireturn, 1) := by decide +kernel
theorem dX6_register_0 : decode cX6_register 0 = .ok (.iload_n 1, 1) := by decide +kernel
theorem dX6_register_1 : decode cX6_register 1 = .ok (.ifCond .lt 16, 3) := by decide +kernel
theorem dX6_register_4 : decode cX6_register 4 = .ok (.iload_n 1, 1) := by decide +kernel
theorem dX6_register_5 : decode cX6_register 5 = .ok (.bipush 8, 2) := by decide +kernel
theorem dX6_register_7 : decode cX6_register 7 = .ok (.if_icmp .ge 10, 3) := by decide +kernel
theorem dX6_register_10 : decode cX6_register 10 = .ok (.aload_n 0, 1) := by decide +kernel
theorem dX6_register_11 : decode cX6_register 11 = .ok (.getfield 16, 3) := by decide +kernel
theorem dX6_register_14 : decode cX6_register 14 = .ok (.iload_n 1, 1) := by decide +kernel
theorem dX6_register_15 : decode cX6_register 15 = .ok (.iaload, 1) := by decide +kernel
theorem dX6_register_16 : decode cX6_register 16 = .ok (.ireturn, 1) := by decide +kernel
theorem dX6_register_17 : decode cX6_register 17 = .ok (.iload_n 1, 1) := by decide +kernel
theorem dX6_register_18 : decode cX6_register 18 = .ok (.bipush 8, 2) := by decide +kernel
theorem dX6_register_20 : decode cX6_register 20 = .ok (.if_icmp .ne 10, 3) := by decide +kernel
theorem dX6_register_23 : decode cX6_register 23 = .ok (.aload_n 0, 1) := by decide +kernel
theorem dX6_register_24 : decode cX6_register 24 = .ok (.getfield 53, 3) := by decide +kernel
theorem dX6_register_27 : decode cX6_register 27 = .ok (.goto 34, 3) := by decide +kernel
theorem dX6_register_30 : decode cX6_register 30 = .ok (.iload_n 1, 1) := by decide +kernel
theorem dX6_register_31 : decode cX6_register 31 = .ok (.bipush 9, 2) := by decide +kernel
theorem dX6_register_33 : decode cX6_register 33 = .ok (.if_icmp .ne 10, 3) := by decide +kernel
theorem dX6_register_36 : decode cX6_register 36 = .ok (.aload_n 0, 1) := by decide +kernel
theorem dX6_register_37 : decode cX6_register 37 = .ok (.getfield 56, 3) := by decide +kernel
theorem dX6_register_40 : decode cX6_register 40 = .ok (.goto 21, 3) := by decide +kernel
theorem dX6_register_43 : decode cX6_register 43 = .ok (.iload_n 1, 1) := by decide +kernel
theorem dX6_register_44 : decode cX6_register 44 = .ok (.bipush 10, 2) := by decide +kernel
theorem dX6_register_46 : decode cX6_register 46 = .ok (.if_icmp .ne 14, 3) := by decide +kernel
theorem dX6_register_49 : decode cX6_register 49 = .ok (.aload_n 0, 1) := by decide +kernel
theorem dX6_register_50 : decode cX6_register 50 = .ok (.getfield 59, 3) := by decide +kernel
theorem dX6_register_53 : decode cX6_register 53 = .ok (.ifCond .eq 7, 3) := by decide +kernel
theorem dX6_register_56 : decode cX6_register 56 = .ok (.iconst 1, 1) := by decide +kernel
theorem dX6_register_57 : decode cX6_register 57 = .ok (.goto 4, 3) := by decide +kernel
theorem dX6_register_60 : decode cX6_register 60 = .ok (.iconst 0, 1) := by decide +kernel
theorem dX6_register_61 : decode cX6_register 61 = .ok (.ireturn, 1) := by decide +kernel
set_option maxRecDepth 20000 in
theorem ggX6_word_X6_isPlace : GoodIn wsX6_word wsX6_isPlace := goodIn_r _ [5] (by decide +kernel) (by decide +kernel)
set_option maxRecDepth 20000 in
theorem gX6_word_X6_isPlace : GoodIn wsX6_word (va_wsS RX6 49 yX6_isPlace wsX6_isPlace) := goodIn_app (goodIn_of _ (by decide +kernel)) ggX6_word_X6_isPlace
theorem dX6_word_0 : decode cX6_word 0 = .ok (.iload_n 1, 1) := by decide +kernel
theorem dX6_word_1 : decode cX6_word 1 = .ok (.invokestatic 49, 3) := by decide +kernel
theorem dX6_word_4 : decode cX6_word 4 = .ok (.ifCond .eq 12, 3) := by decide +kernel
theorem dX6_word_7 : decode cX6_word 7 = .ok (.aload_n 0, 1) := by decide +kernel
theorem dX6_word_8 : decode cX6_word 8 = .ok (.getfield 13, 3) := by decide +kernel
theorem dX6_word_11 : decode cX6_word 11 = .ok (.iload_n 1, 1) := by decide +kernel
theorem dX6_word_12 : decode cX6_word 12 = .ok (.iaload, 1) := by decide +kernel
theorem dX6_word_13 : decode cX6_word 13 = .ok (.goto 4, 3) := by decide +kernel
theorem dX6_word_16 : decode cX6_word 16 = .ok (.iconst 0, 1) := by decide +kernel
theorem dX6_word_17 : decode cX6_word 17 = .ok (.ireturn, 1) := by decide +kernel
theorem dX6_outs_0 : decode cX6_outs 0 = .ok (.aload_n 0, 1) := by decide +kernel
theorem dX6_outs_1 : decode cX6_outs 1 = .ok (.getfield 62, 3) := by decide +kernel
theorem dX6_outs_4 : decode cX6_outs 4 = .ok (.ireturn, 1) := by decide +kernel
theorem dX6_out_0 : decode cX6_out 0 = .ok (.iload_n 1, 1) := by decide +kernel
theorem dX6_out_1 : decode cX6_out 1 = .ok (.ifCond .lt 26, 3) := by decide +kernel
theorem dX6_out_4 : decode cX6_out 4 = .ok (.iload_n 1, 1) := by decide +kernel
theorem dX6_out_5 : decode cX6_out 5 = .ok (.aload_n 0, 1) := by decide +kernel
theorem dX6_out_6 : decode cX6_out 6 = .ok (.getfield 62, 3) := by decide +kernel
theorem dX6_out_9 : decode cX6_out 9 = .ok (.if_icmp .ge 18, 3) := by decide +kernel
theorem dX6_out_12 : decode cX6_out 12 = .ok (.iload_n 1, 1) := by decide +kernel
theorem dX6_out_13 : decode cX6_out 13 = .ok (.bipush 64, 2) := by decide +kernel
theorem dX6_out_15 : decode cX6_out 15 = .ok (.if_icmp .ge 12, 3) := by decide +kernel
theorem dX6_out_18 : decode cX6_out 18 = .ok (.aload_n 0, 1) := by decide +kernel
theorem dX6_out_19 : decode cX6_out 19 = .ok (.getfield 19, 3) := by decide +kernel
theorem dX6_out_22 : decode cX6_out 22 = .ok (.iload_n 1, 1) := by decide +kernel
theorem dX6_out_23 : decode cX6_out 23 = .ok (.iaload, 1) := by decide +kernel
theorem dX6_out_24 : decode cX6_out 24 = .ok (.goto 4, 3) := by decide +kernel
theorem dX6_out_27 : decode cX6_out 27 = .ok (.iconst 0, 1) := by decide +kernel
theorem dX6_out_28 : decode cX6_out 28 = .ok (.ireturn, 1) := by decide +kernel
theorem dJ6_bitCount_0f7a4_0 : decode cJ6_bitCount_0f7a4 0 = .ok (.iload_n 0, 1) := by decide +kernel
theorem dJ6_bitCount_0f7a4_1 : decode cJ6_bitCount_0f7a4 1 = .ok (.iload_n 0, 1) := by decide +kernel
theorem dJ6_bitCount_0f7a4_2 : decode cJ6_bitCount_0f7a4 2 = .ok (.iconst 1, 1) := by decide +kernel
theorem dJ6_bitCount_0f7a4_3 : decode cJ6_bitCount_0f7a4 3 = .ok (.iushr, 1) := by decide +kernel
theorem dJ6_bitCount_0f7a4_4 : decode cJ6_bitCount_0f7a4 4 = .ok (.ldc_w 265, 3) := by decide +kernel
theorem dJ6_bitCount_0f7a4_7 : decode cJ6_bitCount_0f7a4 7 = .ok (.iand, 1) := by decide +kernel
theorem dJ6_bitCount_0f7a4_8 : decode cJ6_bitCount_0f7a4 8 = .ok (.isub, 1) := by decide +kernel
theorem dJ6_bitCount_0f7a4_9 : decode cJ6_bitCount_0f7a4 9 = .ok (.istore_n 0, 1) := by decide +kernel
theorem dJ6_bitCount_0f7a4_10 : decode cJ6_bitCount_0f7a4 10 = .ok (.iload_n 0, 1) := by decide +kernel
theorem dJ6_bitCount_0f7a4_11 : decode cJ6_bitCount_0f7a4 11 = .ok (.ldc_w 266, 3) := by decide +kernel
theorem dJ6_bitCount_0f7a4_14 : decode cJ6_bitCount_0f7a4 14 = .ok (.iand, 1) := by decide +kernel
theorem dJ6_bitCount_0f7a4_15 : decode cJ6_bitCount_0f7a4 15 = .ok (.iload_n 0, 1) := by decide +kernel
theorem dJ6_bitCount_0f7a4_16 : decode cJ6_bitCount_0f7a4 16 = .ok (.iconst 2, 1) := by decide +kernel
theorem dJ6_bitCount_0f7a4_17 : decode cJ6_bitCount_0f7a4 17 = .ok (.iushr, 1) := by decide +kernel
theorem dJ6_bitCount_0f7a4_18 : decode cJ6_bitCount_0f7a4 18 = .ok (.ldc_w 266, 3) := by decide +kernel
theorem dJ6_bitCount_0f7a4_21 : decode cJ6_bitCount_0f7a4 21 = .ok (.iand, 1) := by decide +kernel
theorem dJ6_bitCount_0f7a4_22 : decode cJ6_bitCount_0f7a4 22 = .ok (.iadd, 1) := by decide +kernel
theorem dJ6_bitCount_0f7a4_23 : decode cJ6_bitCount_0f7a4 23 = .ok (.istore_n 0, 1) := by decide +kernel
theorem dJ6_bitCount_0f7a4_24 : decode cJ6_bitCount_0f7a4 24 = .ok (.iload_n 0, 1) := by decide +kernel
theorem dJ6_bitCount_0f7a4_25 : decode cJ6_bitCount_0f7a4 25 = .ok (.iload_n 0, 1) := by decide +kernel
theorem dJ6_bitCount_0f7a4_26 : decode cJ6_bitCount_0f7a4 26 = .ok (.iconst 4, 1) := by decide +kernel
theorem dJ6_bitCount_0f7a4_27 : decode cJ6_bitCount_0f7a4 27 = .ok (.iushr, 1) := by decide +kernel
theorem dJ6_bitCount_0f7a4_28 : decode cJ6_bitCount_0f7a4 28 = .ok (.iadd, 1) := by decide +kernel
theorem dJ6_bitCount_0f7a4_29 : decode cJ6_bitCount_0f7a4 29 = .ok (.ldc_w 267, 3) := by decide +kernel
theorem dJ6_bitCount_0f7a4_32 : decode cJ6_bitCount_0f7a4 32 = .ok (.iand, 1) := by decide +kernel
theorem dJ6_bitCount_0f7a4_33 : decode cJ6_bitCount_0f7a4 33 = .ok (.istore_n 0, 1) := by decide +kernel
theorem dJ6_bitCount_0f7a4_34 : decode cJ6_bitCount_0f7a4 34 = .ok (.iload_n 0, 1) := by decide +kernel
theorem dJ6_bitCount_0f7a4_35 : decode cJ6_bitCount_0f7a4 35 = .ok (.iload_n 0, 1) := by decide +kernel
theorem dJ6_bitCount_0f7a4_36 : decode cJ6_bitCount_0f7a4 36 = .ok (.bipush 8, 2) := by decide +kernel
theorem dJ6_bitCount_0f7a4_38 : decode cJ6_bitCount_0f7a4 38 = .ok (.iushr, 1) := by decide +kernel
theorem dJ6_bitCount_0f7a4_39 : decode cJ6_bitCount_0f7a4 39 = .ok (.iadd, 1) := by decide +kernel
theorem dJ6_bitCount_0f7a4_40 : decode cJ6_bitCount_0f7a4 40 = .ok (.istore_n 0, 1) := by decide +kernel
theorem dJ6_bitCount_0f7a4_41 : decode cJ6_bitCount_0f7a4 41 = .ok (.iload_n 0, 1) := by decide +kernel
theorem dJ6_bitCount_0f7a4_42 : decode cJ6_bitCount_0f7a4 42 = .ok (.iload_n 0, 1) := by decide +kernel
theorem dJ6_bitCount_0f7a4_43 : decode cJ6_bitCount_0f7a4 43 = .ok (.bipush 16, 2) := by decide +kernel
theorem dJ6_bitCount_0f7a4_45 : decode cJ6_bitCount_0f7a4 45 = .ok (.iushr, 1) := by decide +kernel
theorem dJ6_bitCount_0f7a4_46 : decode cJ6_bitCount_0f7a4 46 = .ok (.iadd, 1) := by decide +kernel
theorem dJ6_bitCount_0f7a4_47 : decode cJ6_bitCount_0f7a4 47 = .ok (.istore_n 0, 1) := by decide +kernel
theorem dJ6_bitCount_0f7a4_48 : decode cJ6_bitCount_0f7a4 48 = .ok (.iload_n 0, 1) := by decide +kernel
theorem dJ6_bitCount_0f7a4_49 : decode cJ6_bitCount_0f7a4 49 = .ok (.bipush 63, 2) := by decide +kernel
theorem dJ6_bitCount_0f7a4_51 : decode cJ6_bitCount_0f7a4 51 = .ok (.iand, 1) := by decide +kernel
theorem dJ6_bitCount_0f7a4_52 : decode cJ6_bitCount_0f7a4 52 = .ok (.ireturn, 1) := by decide +kernel
theorem dJ9_max_7cf53_0 : decode cJ9_max_7cf53 0 = .ok (.iload_n 0, 1) := by decide +kernel
theorem dJ9_max_7cf53_1 : decode cJ9_max_7cf53 1 = .ok (.iload_n 1, 1) := by decide +kernel
theorem dJ9_max_7cf53_2 : decode cJ9_max_7cf53 2 = .ok (.if_icmp .lt 7, 3) := by decide +kernel
theorem dJ9_max_7cf53_5 : decode cJ9_max_7cf53 5 = .ok (.iload_n 0, 1) := by decide +kernel
theorem dJ9_max_7cf53_6 : decode cJ9_max_7cf53 6 = .ok (.goto 4, 3) := by decide +kernel
theorem dJ9_max_7cf53_9 : decode cJ9_max_7cf53 9 = .ok (.iload_n 1, 1) := by decide +kernel
theorem dJ9_max_7cf53_10 : decode cJ9_max_7cf53 10 = .ok (.ireturn, 1) := by decide +kernel
theorem dJ9_min_7cf53_0 : decode cJ9_min_7cf53 0 = .ok (.iload_n 0, 1) := by decide +kernel
theorem dJ9_min_7cf53_1 : decode cJ9_min_7cf53 1 = .ok (.iload_n 1, 1) := by decide +kernel
theorem dJ9_min_7cf53_2 : decode cJ9_min_7cf53 2 = .ok (.if_icmp .gt 7, 3) := by decide +kernel
theorem dJ9_min_7cf53_5 : decode cJ9_min_7cf53 5 = .ok (.iload_n 0, 1) := by decide +kernel
theorem dJ9_min_7cf53_6 : decode cJ9_min_7cf53 6 = .ok (.goto 4, 3) := by decide +kernel
theorem dJ9_min_7cf53_9 : decode cJ9_min_7cf53 9 = .ok (.iload_n 1, 1) := by decide +kernel
theorem dJ9_min_7cf53_10 : decode cJ9_min_7cf53 10 = .ok (.ireturn, 1) := by decide +kernel
theorem dJ7_fill_53178_0 : decode cJ7_fill_53178 0 = .ok (.iconst 0, 1) := by decide +kernel
theorem dJ7_fill_53178_1 : decode cJ7_fill_53178 1 = .ok (.istore_n 2, 1) := by decide +kernel
theorem dJ7_fill_53178_2 : decode cJ7_fill_53178 2 = .ok (.aload_n 0, 1) := by decide +kernel
theorem dJ7_fill_53178_3 : decode cJ7_fill_53178 3 = .ok (.arraylength, 1) := by decide +kernel
theorem dJ7_fill_53178_4 : decode cJ7_fill_53178 4 = .ok (.istore_n 3, 1) := by decide +kernel
theorem dJ7_fill_53178_5 : decode cJ7_fill_53178 5 = .ok (.iload_n 2, 1) := by decide +kernel
theorem dJ7_fill_53178_6 : decode cJ7_fill_53178 6 = .ok (.iload_n 3, 1) := by decide +kernel
theorem dJ7_fill_53178_7 : decode cJ7_fill_53178 7 = .ok (.if_icmp .ge 13, 3) := by decide +kernel
theorem dJ7_fill_53178_10 : decode cJ7_fill_53178 10 = .ok (.aload_n 0, 1) := by decide +kernel
theorem dJ7_fill_53178_11 : decode cJ7_fill_53178 11 = .ok (.iload_n 2, 1) := by decide +kernel
theorem dJ7_fill_53178_12 : decode cJ7_fill_53178 12 = .ok (.iload_n 1, 1) := by decide +kernel
theorem dJ7_fill_53178_13 : decode cJ7_fill_53178 13 = .ok (.iastore, 1) := by decide +kernel
theorem dJ7_fill_53178_14 : decode cJ7_fill_53178 14 = .ok (.iinc 2 1, 3) := by decide +kernel
theorem dJ7_fill_53178_17 : decode cJ7_fill_53178 17 = .ok (.goto (-12), 3) := by decide +kernel
theorem dJ7_fill_53178_20 : decode cJ7_fill_53178 20 = .ok (.return_, 1) := by decide +kernel
