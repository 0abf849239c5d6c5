theorem dX0_init_0 : decode cX0_init 0 = .ok (.aload_n 0, 1) := by decide +kernel
theorem dX0_init_1 : decode cX0_init 1 = .ok (.invokespecial 3, 3) := by decide +kernel
theorem dX0_init_4 : decode cX0_init 4 = .ok (.aload_n 0, 1) := by decide +kernel
theorem dX0_init_5 : decode cX0_init 5 = .ok (.bipush 100, 2) := by decide +kernel
theorem dX0_init_7 : decode cX0_init 7 = .ok (.newarray .int, 2) := by decide +kernel
theorem dX0_init_9 : decode cX0_init 9 = .ok (.putfield 9, 3) := by decide +kernel
theorem dX0_init_12 : decode cX0_init 12 = .ok (.return_, 1) := by decide +kernel
theorem dX0_clear_0 : decode cX0_clear 0 = .ok (.aload_n 0, 1) := by decide +kernel
theorem dX0_clear_1 : decode cX0_clear 1 = .ok (.iconst 0, 1) := by decide +kernel
theorem dX0_clear_2 : decode cX0_clear 2 = .ok (.putfield 15, 3) := by decide +kernel
theorem dX0_clear_5 : decode cX0_clear 5 = .ok (.aload_n 0, 1) := by decide +kernel
theorem dX0_clear_6 : decode cX0_clear 6 = .ok (.iconst 0, 1) := by decide +kernel
theorem dX0_clear_7 : decode cX0_clear 7 = .ok (.putfield 19, 3) := by decide +kernel
theorem dX0_clear_10 : decode cX0_clear 10 = .ok (.return_, 1) := by decide +kernel
theorem dX0_add_0 : decode cX0_add 0 = .ok (.aload_n 0, 1) := by decide +kernel
theorem dX0_add_1 : decode cX0_add 1 = .ok (.getfield 9, 3) := by decide +kernel
theorem dX0_add_4 : decode cX0_add 4 = .ok (.aload_n 0, 1) := by decide +kernel
theorem dX0_add_5 : decode cX0_add 5 = .ok (.getfield 15, 3) := by decide +kernel
theorem dX0_add_8 : decode cX0_add 8 = .ok (.aload_n 0, 1) := by decide +kernel
theorem dX0_add_9 : decode cX0_add 9 = .ok (.getfield 19, 3) := by decide +kernel
theorem dX0_add_12 : decode cX0_add 12 = .ok (.iadd, 1) := by decide +kernel
theorem dX0_add_13 : decode cX0_add 13 = .ok (.bipush 100, 2) := by decide +kernel
theorem dX0_add_15 : decode cX0_add 15 = .ok (.irem, 1) := by decide +kernel
theorem dX0_add_16 : decode cX0_add 16 = .ok (.iload_n 1, 1) := by decide +kernel
theorem dX0_add_17 : decode cX0_add 17 = .ok (.iastore, 1) := by decide +kernel
theorem dX0_add_18 : decode cX0_add 18 = .ok (.aload_n 0, 1) := by decide +kernel
theorem dX0_add_19 : decode cX0_add 19 = .ok (.dup, 1) := by decide +kernel
theorem dX0_add_20 : decode cX0_add 20 = .ok (.getfield 19, 3) := by decide +kernel
theorem dX0_add_23 : decode cX0_add 23 = .ok (.iconst 1, 1) := by decide +kernel
theorem dX0_add_24 : decode cX0_add 24 = .ok (.iadd, 1) := by decide +kernel
theorem dX0_add_25 : decode cX0_add 25 = .ok (.putfield 19, 3) := by decide +kernel
theorem dX0_add_28 : decode cX0_add 28 = .ok (.return_, 1) := by decide +kernel
theorem dX0_take_0 : decode cX0_take 0 = .ok (.aload_n 0, 1) := by decide +kernel
theorem dX0_take_1 : decode cX0_take 1 = .ok (.getfield 9, 3) := by decide +kernel
theorem dX0_take_4 : decode cX0_take 4 = .ok (.aload_n 0, 1) := by decide +kernel
theorem dX0_take_5 : decode cX0_take 5 = .ok (.getfield 15, 3) := by decide +kernel
theorem dX0_take_8 : decode cX0_take 8 = .ok (.iaload, 1) := by decide +kernel
theorem dX0_take_9 : decode cX0_take 9 = .ok (.istore_n 1, 1) := by decide +kernel
theorem dX0_take_10 : decode cX0_take 10 = .ok (.aload_n 0, 1) := by decide +kernel
theorem dX0_take_11 : decode cX0_take 11 = .ok (.aload_n 0, 1) := by decide +kernel
theorem dX0_take_12 : decode cX0_take 12 = .ok (.getfield 15, 3) := by decide +kernel
theorem dX0_take_15 : decode cX0_take 15 = .ok (.iconst 1, 1) := by decide +kernel
theorem dX0_take_16 : decode cX0_take 16 = .ok (.iadd, 1) := by decide +kernel
theorem dX0_take_17 : decode cX0_take 17 = .ok (.bipush 100, 2) := by decide +kernel
theorem dX0_take_19 : decode cX0_take 19 = .ok (.irem, 1) := by decide +kernel
theorem dX0_take_20 : decode cX0_take 20 = .ok (.putfield 15, 3) := by decide +kernel
theorem dX0_take_23 : decode cX0_take 23 = .ok (.aload_n 0, 1) := by decide +kernel
theorem dX0_take_24 : decode cX0_take 24 = .ok (.dup, 1) := by decide +kernel
theorem dX0_take_25 : decode cX0_take 25 = .ok (.getfield 19, 3) := by decide +kernel
theorem dX0_take_28 : decode cX0_take 28 = .ok (.iconst 1, 1) := by decide +kernel
theorem dX0_take_29 : decode cX0_take 29 = .ok (.isub, 1) := by decide +kernel
theorem dX0_take_30 : decode cX0_take 30 = .ok (.putfield 19, 3) := by decide +kernel
theorem dX0_take_33 : decode cX0_take 33 = .ok (.iload_n 1, 1) := by decide +kernel
theorem dX0_take_34 : decode cX0_take 34 = .ok (.ireturn, 1) := by decide +kernel
theorem dX1_init_0 : decode cX1_init 0 = .ok (.aload_n 0, 1) := by decide +kernel
theorem dX1_init_1 : decode cX1_init 1 = .ok (.invokespecial 3, 3) := by decide +kernel
theorem dX1_init_4 : decode cX1_init 4 = .ok (.aload_n 0, 1) := by decide +kernel
theorem dX1_init_5 : decode cX1_init 5 = .ok (.sipush 300, 3) := by decide +kernel
theorem dX1_init_8 : decode cX1_init 8 = .ok (.newarray .int, 2) := by decide +kernel
theorem dX1_init_10 : decode cX1_init 10 = .ok (.putfield 9, 3) := by decide +kernel
theorem dX1_init_13 : decode cX1_init 13 = .ok (.aload_n 0, 1) := by decide +kernel
theorem dX1_init_14 : decode cX1_init 14 = .ok (.sipush 300, 3) := by decide +kernel
theorem dX1_init_17 : decode cX1_init 17 = .ok (.newarray .int, 2) := by decide +kernel
theorem dX1_init_19 : decode cX1_init 19 = .ok (.putfield 15, 3) := by decide +kernel
theorem dX1_init_22 : decode cX1_init 22 = .ok (.aload_n 0, 1) := by decide +kernel
theorem dX1_init_23 : decode cX1_init 23 = .ok (.sipush 300, 3) := by decide +kernel
theorem dX1_init_26 : decode cX1_init 26 = .ok (.newarray .int, 2) := by decide +kernel
theorem dX1_init_28 : decode cX1_init 28 = .ok (.putfield 18, 3) := by decide +kernel
theorem dX1_init_31 : decode cX1_init 31 = .ok (.return_, 1) := by decide +kernel
theorem dX1_add_0 : decode cX1_add 0 = .ok (.aload_n 0, 1) := by decide +kernel
theorem dX1_add_1 : decode cX1_add 1 = .ok (.getfield 9, 3) := by decide +kernel
theorem dX1_add_4 : decode cX1_add 4 = .ok (.aload_n 0, 1) := by decide +kernel
theorem dX1_add_5 : decode cX1_add 5 = .ok (.getfield 21, 3) := by decide +kernel
theorem dX1_add_8 : decode cX1_add 8 = .ok (.iload_n 1, 1) := by decide +kernel
theorem dX1_add_9 : decode cX1_add 9 = .ok (.iastore, 1) := by decide +kernel
theorem dX1_add_10 : decode cX1_add 10 = .ok (.aload_n 0, 1) := by decide +kernel
theorem dX1_add_11 : decode cX1_add 11 = .ok (.getfield 15, 3) := by decide +kernel
theorem dX1_add_14 : decode cX1_add 14 = .ok (.aload_n 0, 1) := by decide +kernel
theorem dX1_add_15 : decode cX1_add 15 = .ok (.getfield 21, 3) := by decide +kernel
theorem dX1_add_18 : decode cX1_add 18 = .ok (.iload_n 2, 1) := by decide +kernel
theorem dX1_add_19 : decode cX1_add 19 = .ok (.iastore, 1) := by decide +kernel
theorem dX1_add_20 : decode cX1_add 20 = .ok (.aload_n 0, 1) := by decide +kernel
theorem dX1_add_21 : decode cX1_add 21 = .ok (.getfield 18, 3) := by decide +kernel
theorem dX1_add_24 : decode cX1_add 24 = .ok (.aload_n 0, 1) := by decide +kernel
theorem dX1_add_25 : decode cX1_add 25 = .ok (.getfield 21, 3) := by decide +kernel
theorem dX1_add_28 : decode cX1_add 28 = .ok (.iload_n 3, 1) := by decide +kernel
theorem dX1_add_29 : decode cX1_add 29 = .ok (.iastore, 1) := by decide +kernel
theorem dX1_add_30 : decode cX1_add 30 = .ok (.aload_n 0, 1) := by decide +kernel
theorem dX1_add_31 : decode cX1_add 31 = .ok (.dup, 1) := by decide +kernel
theorem dX1_add_32 : decode cX1_add 32 = .ok (.getfield 21, 3) := by decide +kernel
theorem dX1_add_35 : decode cX1_add 35 = .ok (.iconst 1, 1) := by decide +kernel
theorem dX1_add_36 : decode cX1_add 36 = .ok (.iadd, 1) := by decide +kernel
theorem dX1_add_37 : decode cX1_add 37 = .ok (.putfield 21, 3) := by decide +kernel
theorem dX1_add_40 : decode cX1_add 40 = .ok (.return_, 1) := by decide +kernel
theorem dX1_countBefore_0 : decode cX1_countBefore 0 = .ok (.iconst 0, 1) := by decide +kernel
theorem dX1_countBefore_1 : decode cX1_countBefore 1 = .ok (.istore_n 2, 1) := by decide +kernel
theorem dX1_countBefore_2 : decode cX1_countBefore 2 = .ok (.sipush 256, 3) := by decide +kernel
theorem dX1_countBefore_5 : decode cX1_countBefore 5 = .ok (.istore_n 3, 1) := by decide +kernel
theorem dX1_countBefore_6 : decode cX1_countBefore 6 = .ok (.iload_n 3, 1) := by decide +kernel
theorem dX1_countBefore_7 : decode cX1_countBefore 7 = .ok (.ifCond .le 40, 3) := by decide +kernel
theorem dX1_countBefore_10 : decode cX1_countBefore 10 = .ok (.iload_n 2, 1) := by decide +kernel
theorem dX1_countBefore_11 : decode cX1_countBefore 11 = .ok (.iload_n 3, 1) := by decide +kernel
theorem dX1_countBefore_12 : decode cX1_countBefore 12 = .ok (.iadd, 1) := by decide +kernel
theorem dX1_countBefore_13 : decode cX1_countBefore 13 = .ok (.istore 4, 2) := by decide +kernel
theorem dX1_countBefore_15 : decode cX1_countBefore 15 = .ok (.iload 4, 2) := by decide +kernel
theorem dX1_countBefore_17 : decode cX1_countBefore 17 = .ok (.aload_n 0, 1) := by decide +kernel
theorem dX1_countBefore_18 : decode cX1_countBefore 18 = .ok (.getfield 21, 3) := by decide +kernel
theorem dX1_countBefore_21 : decode cX1_countBefore 21 = .ok (.if_icmp .gt 19, 3) := by decide +kernel
theorem dX1_countBefore_24 : decode cX1_countBefore 24 = .ok (.aload_n 0, 1) := by decide +kernel
theorem dX1_countBefore_25 : decode cX1_countBefore 25 = .ok (.getfield 9, 3) := by decide +kernel
theorem dX1_countBefore_28 : decode cX1_countBefore 28 = .ok (.iload 4, 2) := by decide +kernel
theorem dX1_countBefore_30 : decode cX1_countBefore 30 = .ok (.iconst 1, 1) := by decide +kernel
theorem dX1_countBefore_31 : decode cX1_countBefore 31 = .ok (.isub, 1) := by decide +kernel
theorem dX1_countBefore_32 : decode cX1_countBefore 32 = .ok (.iaload, 1) := by decide +kernel
theorem dX1_countBefore_33 : decode cX1_countBefore 33 = .ok (.iload_n 1, 1) := by decide +kernel
theorem dX1_countBefore_34 : decode cX1_countBefore 34 = .ok (.if_icmp .ge 6, 3) := by decide +kernel
theorem dX1_countBefore_37 : decode cX1_countBefore 37 = .ok (.iload 4, 2) := by decide +kernel
theorem dX1_countBefore_39 : decode cX1_countBefore 39 = .ok (.istore_n 2, 1) := by decide +kernel
theorem dX1_countBefore_40 : decode cX1_countBefore 40 = .ok (.iload_n 3, 1) := by decide +kernel
theorem dX1_countBefore_41 : decode cX1_countBefore 41 = .ok (.iconst 2, 1) := by decide +kernel
theorem dX1_countBefore_42 : decode cX1_countBefore 42 = .ok (.idiv, 1) := by decide +kernel
theorem dX1_countBefore_43 : decode cX1_countBefore 43 = .ok (.istore_n 3, 1) := by decide +kernel
theorem dX1_countBefore_44 : decode cX1_countBefore 44 = .ok (.goto (-38), 3) := by decide +kernel
theorem dX1_countBefore_47 : decode cX1_countBefore 47 = .ok (.iload_n 2, 1) := by decide +kernel
theorem dX1_countBefore_48 : decode cX1_countBefore 48 = .ok (.ireturn, 1) := by decide +kernel
theorem dX2_init_0 : decode cX2_init 0 = .ok (.aload_n 0, 1) := by decide +kernel
theorem dX2_init_1 : decode cX2_init 1 = .ok (.invokespecial 3, 3) := by decide +kernel
theorem dX2_init_4 : decode cX2_init 4 = .ok (.aload_n 0, 1) := by decide +kernel
theorem dX2_init_5 : decode cX2_init 5 = .ok (.bipush 8, 2) := by decide +kernel
theorem dX2_init_7 : decode cX2_init 7 = .ok (.newarray .int, 2) := by decide +kernel
theorem dX2_init_9 : decode cX2_init 9 = .ok (.putfield 9, 3) := by decide +kernel
theorem dX2_init_12 : decode cX2_init 12 = .ok (.aload_n 0, 1) := by decide +kernel
theorem dX2_init_13 : decode cX2_init 13 = .ok (.sipush 512, 3) := by decide +kernel
theorem dX2_init_16 : decode cX2_init 16 = .ok (.newarray .int, 2) := by decide +kernel
theorem dX2_init_18 : decode cX2_init 18 = .ok (.putfield 15, 3) := by decide +kernel
theorem dX2_init_21 : decode cX2_init 21 = .ok (.aload_n 0, 1) := by decide +kernel
theorem dX2_init_22 : decode cX2_init 22 = .ok (.bipush 64, 2) := by decide +kernel
theorem dX2_init_24 : decode cX2_init 24 = .ok (.newarray .int, 2) := by decide +kernel
theorem dX2_init_26 : decode cX2_init 26 = .ok (.putfield 18, 3) := by decide +kernel
theorem dX2_init_29 : decode cX2_init 29 = .ok (.return_, 1) := by decide +kernel
set_option maxRecDepth 20000 in
theorem ggX2_reset_J7_fill_53178 : GoodIn wsX2_reset wsJ7_fill_53178 := goodIn_r _ [10] (by decide +kernel) (by decide +kernel)
set_option maxRecDepth 20000 in
theorem gX2_reset_J7_fill_53178 : GoodIn wsX2_reset (va_wsS RX2 21 yJ7_fill_53178 wsJ7_fill_53178) := goodIn_app (goodIn_of _ (by decide +kernel)) ggX2_reset_J7_fill_53178
theorem dX2_reset_0 : decode cX2_reset 0 = .ok (.aload_n 0, 1) := by decide +kernel
theorem dX2_reset_1 : decode cX2_reset 1 = .ok (.getfield 9, 3) := by decide +kernel
theorem dX2_reset_4 : decode cX2_reset 4 = .ok (.iconst 0, 1) := by decide +kernel
theorem dX2_reset_5 : decode cX2_reset 5 = .ok (.invokestatic 21, 3) := by decide +kernel
theorem dX2_reset_8 : decode cX2_reset 8 = .ok (.aload_n 0, 1) := by decide +kernel
theorem dX2_reset_9 : decode cX2_reset 9 = .ok (.iconst 0, 1) := by decide +kernel
theorem dX2_reset_10 : decode cX2_reset 10 = .ok (.putfield 27, 3) := by decide +kernel
theorem dX2_reset_13 : decode cX2_reset 13 = .ok (.aload_n 0, 1) := by decide +kernel
theorem dX2_reset_14 : decode cX2_reset 14 = .ok (.iconst 0, 1) := by decide +kernel
theorem dX2_reset_15 : decode cX2_reset 15 = .ok (.putfield 31, 3) := by decide +kernel
theorem dX2_reset_18 : decode cX2_reset 18 = .ok (.aload_n 0, 1) := by decide +kernel
theorem dX2_reset_19 : decode cX2_reset 19 = .ok (.iconst 0, 1) := by decide +kernel
theorem dX2_reset_20 : decode cX2_reset 20 = .ok (.putfield 34, 3) := by decide +kernel
theorem dX2_reset_23 : decode cX2_reset 23 = .ok (.aload_n 0, 1) := by decide +kernel
theorem dX2_reset_24 : decode cX2_reset 24 = .ok (.iconst 0, 1) := by decide +kernel
theorem dX2_reset_25 : decode cX2_reset 25 = .ok (.putfield 38, 3) := by decide +kernel
theorem dX2_reset_28 : decode cX2_reset 28 = .ok (.aload_n 0, 1) := by decide +kernel
theorem dX2_reset_29 : decode cX2_reset 29 = .ok (.iconst 0, 1) := by decide +kernel
theorem dX2_reset_30 : decode cX2_reset 30 = .ok (.putfield 41, 3) := by decide +kernel
theorem dX2_reset_33 : decode cX2_reset 33 = .ok (.return_, 1) := by decide +kernel
theorem dX2_nextOp_0 : decode cX2_nextOp 0 = .ok (.aload_n 0, 1) := by decide +kernel
theorem dX2_nextOp_1 : decode cX2_nextOp 1 = .ok (.getfield 15, 3) := by decide +kernel
theorem dX2_nextOp_4 : decode cX2_nextOp 4 = .ok (.aload_n 0, 1) := by decide +kernel
theorem dX2_nextOp_5 : decode cX2_nextOp 5 = .ok (.getfield 27, 3) := by decide +kernel
theorem dX2_nextOp_8 : decode cX2_nextOp 8 = .ok (.iaload, 1) := by decide +kernel
theorem dX2_nextOp_9 : decode cX2_nextOp 9 = .ok (.bipush 24, 2) := by decide +kernel
theorem dX2_nextOp_11 : decode cX2_nextOp 11 = .ok (.iushr, 1) := by decide +kernel
theorem dX2_nextOp_12 : decode cX2_nextOp 12 = .ok (.ireturn, 1) := by decide +kernel
set_option maxRecDepth 20000 in
theorem ggX2_writtenWithNext_X2_nextOp : GoodIn wsX2_writtenWithNext wsX2_nextOp := goodIn_r _ [8, 2, 3, 26, 27, 28, 29, 30, 31, 32, 33] (by decide +kernel) (by decide +kernel)
set_option maxRecDepth 20000 in
theorem gX2_writtenWithNext_X2_nextOp : GoodIn wsX2_writtenWithNext (wsV RX2 44 RX2 yX2_nextOp wsX2_nextOp) := goodIn_app (goodIn_of _ (by decide +kernel)) ggX2_writtenWithNext_X2_nextOp
set_option maxRecDepth 20000 in
theorem ggX2_writtenWithNext_X2_target : GoodIn wsX2_writtenWithNext wsX2_target := goodIn_r _ [12, 13, 14, 15, 7, 16, 17, 18, 19, 20, 21, 22, 26, 27, 28, 29, 30, 31, 32, 33] (by decide +kernel) (by decide +kernel)
set_option maxRecDepth 20000 in
theorem gX2_writtenWithNext_X2_target : GoodIn wsX2_writtenWithNext (wsV RX2 48 RX2 yX2_target wsX2_target) := goodIn_app (goodIn_of _ (by decide +kernel)) ggX2_writtenWithNext_X2_target
set_option maxRecDepth 20000 in
theorem ggX2_writtenWithNext_X2_pageBit : GoodIn wsX2_writtenWithNext wsX2_pageBit := goodIn_r _ [25] (by decide +kernel) (by decide +kernel)
set_option maxRecDepth 20000 in
theorem gX2_writtenWithNext_X2_pageBit : GoodIn wsX2_writtenWithNext (va_wsS RX2 52 yX2_pageBit wsX2_pageBit) := goodIn_app (goodIn_of _ (by decide +kernel)) ggX2_writtenWithNext_X2_pageBit
theorem dX2_writtenWithNext_0 : decode cX2_writtenWithNext 0 = .ok (.aload_n 0, 1) := by decide +kernel
theorem dX2_writtenWithNext_1 : decode cX2_writtenWithNext 1 = .ok (.invokevirtual 44, 3) := by decide +kernel
theorem dX2_writtenWithNext_4 : decode cX2_writtenWithNext 4 = .ok (.bipush 8, 2) := by decide +kernel
theorem dX2_writtenWithNext_6 : decode cX2_writtenWithNext 6 = .ok (.if_icmp .ne 27, 3) := by decide +kernel
theorem dX2_writtenWithNext_9 : decode cX2_writtenWithNext 9 = .ok (.aload_n 0, 1) := by decide +kernel
theorem dX2_writtenWithNext_10 : decode cX2_writtenWithNext 10 = .ok (.getfield 41, 3) := by decide +kernel
theorem dX2_writtenWithNext_13 : decode cX2_writtenWithNext 13 = .ok (.aload_n 0, 1) := by decide +kernel
theorem dX2_writtenWithNext_14 : decode cX2_writtenWithNext 14 = .ok (.aload_n 0, 1) := by decide +kernel
theorem dX2_writtenWithNext_15 : decode cX2_writtenWithNext 15 = .ok (.getfield 15, 3) := by decide +kernel
theorem dX2_writtenWithNext_18 : decode cX2_writtenWithNext 18 = .ok (.aload_n 0, 1) := by decide +kernel
theorem dX2_writtenWithNext_19 : decode cX2_writtenWithNext 19 = .ok (.getfield 27, 3) := by decide +kernel
theorem dX2_writtenWithNext_22 : decode cX2_writtenWithNext 22 = .ok (.iaload, 1) := by decide +kernel
theorem dX2_writtenWithNext_23 : decode cX2_writtenWithNext 23 = .ok (.invokevirtual 48, 3) := by decide +kernel
theorem dX2_writtenWithNext_26 : decode cX2_writtenWithNext 26 = .ok (.invokestatic 52, 3) := by decide +kernel
theorem dX2_writtenWithNext_29 : decode cX2_writtenWithNext 29 = .ok (.ior, 1) := by decide +kernel
theorem dX2_writtenWithNext_30 : decode cX2_writtenWithNext 30 = .ok (.goto 7, 3) := by decide +kernel
theorem dX2_writtenWithNext_33 : decode cX2_writtenWithNext 33 = .ok (.aload_n 0, 1) := by decide +kernel
theorem dX2_writtenWithNext_34 : decode cX2_writtenWithNext 34 = .ok (.getfield 41, 3) := by decide +kernel
theorem dX2_writtenWithNext_37 : decode cX2_writtenWithNext 37 = .ok (.ireturn, 1) := by decide +kernel
theorem dX2_takeRing_0 : decode cX2_takeRing 0 = .ok (.aload_n 0, 1) := by decide +kernel
theorem dX2_takeRing_1 : decode cX2_takeRing 1 = .ok (.aload_n 0, 1) := by decide +kernel
theorem dX2_takeRing_2 : decode cX2_takeRing 2 = .ok (.getfield 27, 3) := by decide +kernel
theorem dX2_takeRing_5 : decode cX2_takeRing 5 = .ok (.putfield 31, 3) := by decide +kernel
theorem dX2_takeRing_8 : decode cX2_takeRing 8 = .ok (.aload_n 0, 1) := by decide +kernel
theorem dX2_takeRing_9 : decode cX2_takeRing 9 = .ok (.bipush 8, 2) := by decide +kernel
theorem dX2_takeRing_11 : decode cX2_takeRing 11 = .ok (.putfield 27, 3) := by decide +kernel
theorem dX2_takeRing_14 : decode cX2_takeRing 14 = .ok (.aload_n 0, 1) := by decide +kernel
theorem dX2_takeRing_15 : decode cX2_takeRing 15 = .ok (.iconst 0, 1) := by decide +kernel
theorem dX2_takeRing_16 : decode cX2_takeRing 16 = .ok (.putfield 34, 3) := by decide +kernel
theorem dX2_takeRing_19 : decode cX2_takeRing 19 = .ok (.return_, 1) := by decide +kernel
set_option maxRecDepth 20000 in
theorem ggX2_perform_X2_fieldA : GoodIn wsX2_perform wsX2_fieldA := goodIn_r _ [8] (by decide +kernel) (by decide +kernel)
set_option maxRecDepth 20000 in
theorem gX2_perform_X2_fieldA : GoodIn wsX2_perform (va_wsS RX2 55 yX2_fieldA wsX2_fieldA) := goodIn_app (goodIn_of _ (by decide +kernel)) ggX2_perform_X2_fieldA
set_option maxRecDepth 20000 in
theorem ggX2_perform_X5_placeOf : GoodIn wsX2_perform wsX5_placeOf := goodIn_r _ [11] (by decide +kernel) (by decide +kernel)
set_option maxRecDepth 20000 in
theorem gX2_perform_X5_placeOf_n58 : GoodIn wsX2_perform (wsX5_placeOf) := ggX2_perform_X5_placeOf
set_option maxRecDepth 20000 in
theorem ggX2_perform_X2_fieldB : GoodIn wsX2_perform wsX2_fieldB := goodIn_r _ [14] (by decide +kernel) (by decide +kernel)
set_option maxRecDepth 20000 in
theorem gX2_perform_X2_fieldB : GoodIn wsX2_perform (va_wsS RX2 61 yX2_fieldB wsX2_fieldB) := goodIn_app (goodIn_of _ (by decide +kernel)) ggX2_perform_X2_fieldB
set_option maxRecDepth 20000 in
theorem ggX2_perform_X2_fieldC : GoodIn wsX2_perform wsX2_fieldC := goodIn_r _ [17] (by decide +kernel) (by decide +kernel)
set_option maxRecDepth 20000 in
theorem gX2_perform_X2_fieldC : GoodIn wsX2_perform (va_wsS RX2 64 yX2_fieldC wsX2_fieldC) := goodIn_app (goodIn_of _ (by decide +kernel)) ggX2_perform_X2_fieldC
set_option maxRecDepth 20000 in
theorem ggX2_perform_X2_compute : GoodIn wsX2_perform wsX2_compute := goodIn_r _ [20] (by decide +kernel) (by decide +kernel)
set_option maxRecDepth 20000 in
theorem gX2_perform_X2_compute : GoodIn wsX2_perform (va_wsS RX2 67 yX2_compute wsX2_compute) := goodIn_app (goodIn_of _ (by decide +kernel)) ggX2_perform_X2_compute
set_option maxRecDepth 20000 in
theorem ggX2_perform_X2_signedHalf : GoodIn wsX2_perform wsX2_signedHalf := goodIn_r _ [23] (by decide +kernel) (by decide +kernel)
set_option maxRecDepth 20000 in
theorem gX2_perform_X2_signedHalf : GoodIn wsX2_perform (va_wsS RX2 71 yX2_signedHalf wsX2_signedHalf) := goodIn_app (goodIn_of _ (by decide +kernel)) ggX2_perform_X2_signedHalf
set_option maxRecDepth 20000 in
theorem ggX2_perform_X2_target : GoodIn wsX2_perform wsX2_target := goodIn_r _ [27, 3, 12, 13, 7, 14, 28, 29, 30, 9, 10, 11, 50, 51, 52, 53, 54, 55, 56, 57] (by decide +kernel) (by decide +kernel)
set_option maxRecDepth 20000 in
theorem gX2_perform_X2_target : GoodIn wsX2_perform (wsV RX2 48 RX2 yX2_target wsX2_target) := goodIn_app (goodIn_of _ (by decide +kernel)) ggX2_perform_X2_target
set_option maxRecDepth 20000 in
theorem ggX2_perform_X2_store : GoodIn wsX2_perform wsX2_store := goodIn_r _ [34, 1, 35, 36, 37, 7, 38, 50, 51, 52, 53, 54, 55, 56, 57] (by decide +kernel) (by decide +kernel)
set_option maxRecDepth 20000 in
theorem gX2_perform_X2_store : GoodIn wsX2_perform (wsV RX2 74 RX2 yX2_store wsX2_store) := goodIn_app (goodIn_of _ (by decide +kernel)) ggX2_perform_X2_store
set_option maxRecDepth 20000 in
theorem ggX2_perform_X2_putOut : GoodIn wsX2_perform wsX2_putOut := goodIn_r _ [42, 43, 44, 50, 51, 52, 53, 54, 55, 56, 57] (by decide +kernel) (by decide +kernel)
set_option maxRecDepth 20000 in
theorem gX2_perform_X2_putOut : GoodIn wsX2_perform (wsV RX2 78 RX2 yX2_putOut wsX2_putOut) := goodIn_app (goodIn_of _ (by decide +kernel)) ggX2_perform_X2_putOut
set_option maxRecDepth 20000 in
theorem ggX2_perform_X2_jump : GoodIn wsX2_perform wsX2_jump := goodIn_r _ [48, 2, 49, 4, 9, 10, 11, 50, 51, 52, 53, 54, 55, 56, 57] (by decide +kernel) (by decide +kernel)
set_option maxRecDepth 20000 in
theorem gX2_perform_X2_jump : GoodIn wsX2_perform (wsV RX2 82 RX2 yX2_jump wsX2_jump) := goodIn_app (goodIn_of _ (by decide +kernel)) ggX2_perform_X2_jump
theorem dX2_perform_0 : decode cX2_perform 0 = .ok (.aload_n 0, 1) := by decide +kernel
theorem dX2_perform_1 : decode cX2_perform 1 = .ok (.getfield 15, 3) := by decide +kernel
theorem dX2_perform_4 : decode cX2_perform 4 = .ok (.aload_n 0, 1) := by decide +kernel
theorem dX2_perform_5 : decode cX2_perform 5 = .ok (.getfield 27, 3) := by decide +kernel
theorem dX2_perform_8 : decode cX2_perform 8 = .ok (.iaload, 1) := by decide +kernel
theorem dX2_perform_9 : decode cX2_perform 9 = .ok (.istore_n 3, 1) := by decide +kernel
theorem dX2_perform_10 : decode cX2_perform 10 = .ok (.iload_n 3, 1) := by decide +kernel
theorem dX2_perform_11 : decode cX2_perform 11 = .ok (.bipush 24, 2) := by decide +kernel
theorem dX2_perform_13 : decode cX2_perform 13 = .ok (.iushr, 1) := by decide +kernel
theorem dX2_perform_14 : decode cX2_perform 14 = .ok (.istore 4, 2) := by decide +kernel
theorem dX2_perform_16 : decode cX2_perform 16 = .ok (.iload_n 3, 1) := by decide +kernel
theorem dX2_perform_17 : decode cX2_perform 17 = .ok (.invokestatic 55, 3) := by decide +kernel
theorem dX2_perform_20 : decode cX2_perform 20 = .ok (.istore 5, 2) := by decide +kernel
theorem dX2_perform_22 : decode cX2_perform 22 = .ok (.aload_n 0, 1) := by decide +kernel
theorem dX2_perform_23 : decode cX2_perform 23 = .ok (.aload_n 0, 1) := by decide +kernel
theorem dX2_perform_24 : decode cX2_perform 24 = .ok (.getfield 27, 3) := by decide +kernel
theorem dX2_perform_27 : decode cX2_perform 27 = .ok (.iconst 1, 1) := by decide +kernel
theorem dX2_perform_28 : decode cX2_perform 28 = .ok (.iadd, 1) := by decide +kernel
theorem dX2_perform_29 : decode cX2_perform 29 = .ok (.invokestatic 58, 3) := by decide +kernel
theorem dX2_perform_32 : decode cX2_perform 32 = .ok (.putfield 27, 3) := by decide +kernel
theorem dX2_perform_35 : decode cX2_perform 35 = .ok (.iload 4, 2) := by decide +kernel
theorem dX2_perform_37 : decode cX2_perform 37 = .ok (.tableswitch 221 1 17 #[83, 83, 83, 83, 83, 116, 130, 150, 221, 221, 221, 169, 180, 194, 221, 205, 213], 83) := by decide +kernel
theorem dX2_perform_120 : decode cX2_perform 120 = .ok (.aload_n 0, 1) := by decide +kernel
theorem dX2_perform_121 : decode cX2_perform 121 = .ok (.getfield 9, 3) := by decide +kernel
theorem dX2_perform_124 : decode cX2_perform 124 = .ok (.iload 5, 2) := by decide +kernel
theorem dX2_perform_126 : decode cX2_perform 126 = .ok (.iload 4, 2) := by decide +kernel
theorem dX2_perform_128 : decode cX2_perform 128 = .ok (.aload_n 0, 1) := by decide +kernel
theorem dX2_perform_129 : decode cX2_perform 129 = .ok (.getfield 9, 3) := by decide +kernel
theorem dX2_perform_132 : decode cX2_perform 132 = .ok (.iload_n 3, 1) := by decide +kernel
theorem dX2_perform_133 : decode cX2_perform 133 = .ok (.invokestatic 61, 3) := by decide +kernel
theorem dX2_perform_136 : decode cX2_perform 136 = .ok (.iaload, 1) := by decide +kernel
theorem dX2_perform_137 : decode cX2_perform 137 = .ok (.aload_n 0, 1) := by decide +kernel
theorem dX2_perform_138 : decode cX2_perform 138 = .ok (.getfield 9, 3) := by decide +kernel
theorem dX2_perform_141 : decode cX2_perform 141 = .ok (.iload_n 3, 1) := by decide +kernel
theorem dX2_perform_142 : decode cX2_perform 142 = .ok (.invokestatic 64, 3) := by decide +kernel
theorem dX2_perform_145 : decode cX2_perform 145 = .ok (.iaload, 1) := by decide +kernel
theorem dX2_perform_146 : decode cX2_perform 146 = .ok (.invokestatic 67, 3) := by decide +kernel
theorem dX2_perform_149 : decode cX2_perform 149 = .ok (.iastore, 1) := by decide +kernel
theorem dX2_perform_150 : decode cX2_perform 150 = .ok (.goto 128, 3) := by decide +kernel
theorem dX2_perform_153 : decode cX2_perform 153 = .ok (.aload_n 0, 1) := by decide +kernel
theorem dX2_perform_154 : decode cX2_perform 154 = .ok (.getfield 9, 3) := by decide +kernel
theorem dX2_perform_157 : decode cX2_perform 157 = .ok (.iload 5, 2) := by decide +kernel
theorem dX2_perform_159 : decode cX2_perform 159 = .ok (.iload_n 3, 1) := by decide +kernel
theorem dX2_perform_160 : decode cX2_perform 160 = .ok (.invokestatic 71, 3) := by decide +kernel
theorem dX2_perform_163 : decode cX2_perform 163 = .ok (.iastore, 1) := by decide +kernel
theorem dX2_perform_164 : decode cX2_perform 164 = .ok (.goto 114, 3) := by decide +kernel
theorem dX2_perform_167 : decode cX2_perform 167 = .ok (.aload_n 0, 1) := by decide +kernel
theorem dX2_perform_168 : decode cX2_perform 168 = .ok (.getfield 9, 3) := by decide +kernel
theorem dX2_perform_171 : decode cX2_perform 171 = .ok (.iload 5, 2) := by decide +kernel
theorem dX2_perform_173 : decode cX2_perform 173 = .ok (.aload_n 0, 1) := by decide +kernel
theorem dX2_perform_174 : decode cX2_perform 174 = .ok (.getfield 15, 3) := by decide +kernel
theorem dX2_perform_177 : decode cX2_perform 177 = .ok (.aload_n 0, 1) := by decide +kernel
theorem dX2_perform_178 : decode cX2_perform 178 = .ok (.iload_n 3, 1) := by decide +kernel
theorem dX2_perform_179 : decode cX2_perform 179 = .ok (.invokevirtual 48, 3) := by decide +kernel
theorem dX2_perform_182 : decode cX2_perform 182 = .ok (.iaload, 1) := by decide +kernel
theorem dX2_perform_183 : decode cX2_perform 183 = .ok (.iastore, 1) := by decide +kernel
theorem dX2_perform_184 : decode cX2_perform 184 = .ok (.goto 94, 3) := by decide +kernel
theorem dX2_perform_187 : decode cX2_perform 187 = .ok (.aload_n 0, 1) := by decide +kernel
theorem dX2_perform_188 : decode cX2_perform 188 = .ok (.aload_n 0, 1) := by decide +kernel
theorem dX2_perform_189 : decode cX2_perform 189 = .ok (.iload_n 3, 1) := by decide +kernel
theorem dX2_perform_190 : decode cX2_perform 190 = .ok (.invokevirtual 48, 3) := by decide +kernel
theorem dX2_perform_193 : decode cX2_perform 193 = .ok (.aload_n 0, 1) := by decide +kernel
theorem dX2_perform_194 : decode cX2_perform 194 = .ok (.getfield 9, 3) := by decide +kernel
theorem dX2_perform_197 : decode cX2_perform 197 = .ok (.iload 5, 2) := by decide +kernel
theorem dX2_perform_199 : decode cX2_perform 199 = .ok (.iaload, 1) := by decide +kernel
theorem dX2_perform_200 : decode cX2_perform 200 = .ok (.invokevirtual 74, 3) := by decide +kernel
theorem dX2_perform_203 : decode cX2_perform 203 = .ok (.goto 75, 3) := by decide +kernel
theorem dX2_perform_206 : decode cX2_perform 206 = .ok (.aload_n 0, 1) := by decide +kernel
theorem dX2_perform_207 : decode cX2_perform 207 = .ok (.getfield 9, 3) := by decide +kernel
theorem dX2_perform_210 : decode cX2_perform 210 = .ok (.iload 5, 2) := by decide +kernel
theorem dX2_perform_212 : decode cX2_perform 212 = .ok (.iload_n 2, 1) := by decide +kernel
theorem dX2_perform_213 : decode cX2_perform 213 = .ok (.iastore, 1) := by decide +kernel
theorem dX2_perform_214 : decode cX2_perform 214 = .ok (.goto 64, 3) := by decide +kernel
theorem dX2_perform_217 : decode cX2_perform 217 = .ok (.aload_n 0, 1) := by decide +kernel
theorem dX2_perform_218 : decode cX2_perform 218 = .ok (.aload_n 0, 1) := by decide +kernel
theorem dX2_perform_219 : decode cX2_perform 219 = .ok (.getfield 9, 3) := by decide +kernel
theorem dX2_perform_222 : decode cX2_perform 222 = .ok (.iload 5, 2) := by decide +kernel
theorem dX2_perform_224 : decode cX2_perform 224 = .ok (.iaload, 1) := by decide +kernel
theorem dX2_perform_225 : decode cX2_perform 225 = .ok (.invokevirtual 78, 3) := by decide +kernel
theorem dX2_perform_228 : decode cX2_perform 228 = .ok (.goto 50, 3) := by decide +kernel
theorem dX2_perform_231 : decode cX2_perform 231 = .ok (.aload_n 0, 1) := by decide +kernel
theorem dX2_perform_232 : decode cX2_perform 232 = .ok (.getfield 9, 3) := by decide +kernel
theorem dX2_perform_235 : decode cX2_perform 235 = .ok (.iload 5, 2) := by decide +kernel
theorem dX2_perform_237 : decode cX2_perform 237 = .ok (.iload_n 1, 1) := by decide +kernel
theorem dX2_perform_238 : decode cX2_perform 238 = .ok (.iastore, 1) := by decide +kernel
theorem dX2_perform_239 : decode cX2_perform 239 = .ok (.goto 39, 3) := by decide +kernel
theorem dX2_perform_242 : decode cX2_perform 242 = .ok (.aload_n 0, 1) := by decide +kernel
theorem dX2_perform_243 : decode cX2_perform 243 = .ok (.iconst 1, 1) := by decide +kernel
theorem dX2_perform_244 : decode cX2_perform 244 = .ok (.putfield 34, 3) := by decide +kernel
theorem dX2_perform_247 : decode cX2_perform 247 = .ok (.goto 31, 3) := by decide +kernel
theorem dX2_perform_250 : decode cX2_perform 250 = .ok (.aload_n 0, 1) := by decide +kernel
theorem dX2_perform_251 : decode cX2_perform 251 = .ok (.iconst 0, 1) := by decide +kernel
theorem dX2_perform_252 : decode cX2_perform 252 = .ok (.putfield 34, 3) := by decide +kernel
theorem dX2_perform_255 : decode cX2_perform 255 = .ok (.goto 23, 3) := by decide +kernel
theorem dX2_perform_258 : decode cX2_perform 258 = .ok (.aload_n 0, 1) := by decide +kernel
theorem dX2_perform_259 : decode cX2_perform 259 = .ok (.iload 4, 2) := by decide +kernel
theorem dX2_perform_261 : decode cX2_perform 261 = .ok (.aload_n 0, 1) := by decide +kernel
theorem dX2_perform_262 : decode cX2_perform 262 = .ok (.getfield 9, 3) := by decide +kernel
theorem dX2_perform_265 : decode cX2_perform 265 = .ok (.iload 5, 2) := by decide +kernel
theorem dX2_perform_267 : decode cX2_perform 267 = .ok (.iaload, 1) := by decide +kernel
theorem dX2_perform_268 : decode cX2_perform 268 = .ok (.iload_n 3, 1) := by decide +kernel
theorem dX2_perform_269 : decode cX2_perform 269 = .ok (.invokestatic 71, 3) := by decide +kernel
theorem dX2_perform_272 : decode cX2_perform 272 = .ok (.invokestatic 58, 3) := by decide +kernel
theorem dX2_perform_275 : decode cX2_perform 275 = .ok (.invokevirtual 82, 3) := by decide +kernel
theorem dX2_perform_278 : decode cX2_perform 278 = .ok (.return_, 1) := by decide +kernel
theorem dX2_compute_0 : decode cX2_compute 0 = .ok (.iload_n 0, 1) := by decide +kernel
theorem dX2_compute_1 : decode cX2_compute 1 = .ok (.tableswitch 47 1 4 #[31, 35, 39, 43], 31) := by decide +kernel
theorem dX2_compute_32 : decode cX2_compute 32 = .ok (.iload_n 1, 1) := by decide +kernel
theorem dX2_compute_33 : decode cX2_compute 33 = .ok (.iload_n 2, 1) := by decide +kernel
theorem dX2_compute_34 : decode cX2_compute 34 = .ok (.iadd, 1) := by decide +kernel
theorem dX2_compute_35 : decode cX2_compute 35 = .ok (.ireturn, 1) := by decide +kernel
theorem dX2_compute_36 : decode cX2_compute 36 = .ok (.iload_n 1, 1) := by decide +kernel
theorem dX2_compute_37 : decode cX2_compute 37 = .ok (.iload_n 2, 1) := by decide +kernel
theorem dX2_compute_38 : decode cX2_compute 38 = .ok (.isub, 1) := by decide +kernel
theorem dX2_compute_39 : decode cX2_compute 39 = .ok (.ireturn, 1) := by decide +kernel
theorem dX2_compute_40 : decode cX2_compute 40 = .ok (.iload_n 1, 1) := by decide +kernel
theorem dX2_compute_41 : decode cX2_compute 41 = .ok (.iload_n 2, 1) := by decide +kernel
theorem dX2_compute_42 : decode cX2_compute 42 = .ok (.imul, 1) := by decide +kernel
theorem dX2_compute_43 : decode cX2_compute 43 = .ok (.ireturn, 1) := by decide +kernel
theorem dX2_compute_44 : decode cX2_compute 44 = .ok (.iload_n 1, 1) := by decide +kernel
theorem dX2_compute_45 : decode cX2_compute 45 = .ok (.iload_n 2, 1) := by decide +kernel
theorem dX2_compute_46 : decode cX2_compute 46 = .ok (.iand, 1) := by decide +kernel
theorem dX2_compute_47 : decode cX2_compute 47 = .ok (.ireturn, 1) := by decide +kernel
theorem dX2_compute_48 : decode cX2_compute 48 = .ok (.iload_n 1, 1) := by decide +kernel
theorem dX2_compute_49 : decode cX2_compute 49 = .ok (.iload_n 2, 1) := by decide +kernel
theorem dX2_compute_50 : decode cX2_compute 50 = .ok (.ixor, 1) := by decide +kernel
theorem dX2_compute_51 : decode cX2_compute 51 = .ok (.ireturn, 1) := by decide +kernel
set_option maxRecDepth 20000 in
theorem ggX2_jump_X5_placeOf : GoodIn wsX2_jump wsX5_placeOf := goodIn_r _ [6] (by decide +kernel) (by decide +kernel)
set_option maxRecDepth 20000 in
theorem gX2_jump_X5_placeOf_n58 : GoodIn wsX2_jump (wsX5_placeOf) := ggX2_jump_X5_placeOf
theorem dX2_jump_0 : decode cX2_jump 0 = .ok (.iload_n 1, 1) := by decide +kernel
theorem dX2_jump_1 : decode cX2_jump 1 = .ok (.tableswitch 128 9 18 #[55, 63, 82, 128, 128, 128, 101, 128, 128, 117], 55) := by decide +kernel
theorem dX2_jump_56 : decode cX2_jump 56 = .ok (.aload_n 0, 1) := by decide +kernel
theorem dX2_jump_57 : decode cX2_jump 57 = .ok (.iload_n 3, 1) := by decide +kernel
theorem dX2_jump_58 : decode cX2_jump 58 = .ok (.putfield 27, 3) := by decide +kernel
theorem dX2_jump_61 : decode cX2_jump 61 = .ok (.goto 68, 3) := by decide +kernel
theorem dX2_jump_64 : decode cX2_jump 64 = .ok (.aload_n 0, 1) := by decide +kernel
theorem dX2_jump_65 : decode cX2_jump 65 = .ok (.iload_n 2, 1) := by decide +kernel
theorem dX2_jump_66 : decode cX2_jump 66 = .ok (.ifCond .ne 7, 3) := by decide +kernel
theorem dX2_jump_69 : decode cX2_jump 69 = .ok (.iload_n 3, 1) := by decide +kernel
theorem dX2_jump_70 : decode cX2_jump 70 = .ok (.goto 7, 3) := by decide +kernel
theorem dX2_jump_73 : decode cX2_jump 73 = .ok (.aload_n 0, 1) := by decide +kernel
theorem dX2_jump_74 : decode cX2_jump 74 = .ok (.getfield 27, 3) := by decide +kernel
theorem dX2_jump_77 : decode cX2_jump 77 = .ok (.putfield 27, 3) := by decide +kernel
theorem dX2_jump_80 : decode cX2_jump 80 = .ok (.goto 49, 3) := by decide +kernel
theorem dX2_jump_83 : decode cX2_jump 83 = .ok (.aload_n 0, 1) := by decide +kernel
theorem dX2_jump_84 : decode cX2_jump 84 = .ok (.iload_n 2, 1) := by decide +kernel
theorem dX2_jump_85 : decode cX2_jump 85 = .ok (.ifCond .ge 7, 3) := by decide +kernel
theorem dX2_jump_88 : decode cX2_jump 88 = .ok (.iload_n 3, 1) := by decide +kernel
theorem dX2_jump_89 : decode cX2_jump 89 = .ok (.goto 7, 3) := by decide +kernel
theorem dX2_jump_92 : decode cX2_jump 92 = .ok (.aload_n 0, 1) := by decide +kernel
theorem dX2_jump_93 : decode cX2_jump 93 = .ok (.getfield 27, 3) := by decide +kernel
theorem dX2_jump_96 : decode cX2_jump 96 = .ok (.putfield 27, 3) := by decide +kernel
theorem dX2_jump_99 : decode cX2_jump 99 = .ok (.goto 30, 3) := by decide +kernel
theorem dX2_jump_102 : decode cX2_jump 102 = .ok (.aload_n 0, 1) := by decide +kernel
theorem dX2_jump_103 : decode cX2_jump 103 = .ok (.aload_n 0, 1) := by decide +kernel
theorem dX2_jump_104 : decode cX2_jump 104 = .ok (.getfield 31, 3) := by decide +kernel
theorem dX2_jump_107 : decode cX2_jump 107 = .ok (.putfield 27, 3) := by decide +kernel
theorem dX2_jump_110 : decode cX2_jump 110 = .ok (.aload_n 0, 1) := by decide +kernel
theorem dX2_jump_111 : decode cX2_jump 111 = .ok (.iconst 1, 1) := by decide +kernel
theorem dX2_jump_112 : decode cX2_jump 112 = .ok (.putfield 34, 3) := by decide +kernel
theorem dX2_jump_115 : decode cX2_jump 115 = .ok (.goto 14, 3) := by decide +kernel
theorem dX2_jump_118 : decode cX2_jump 118 = .ok (.aload_n 0, 1) := by decide +kernel
theorem dX2_jump_119 : decode cX2_jump 119 = .ok (.iload_n 2, 1) := by decide +kernel
theorem dX2_jump_120 : decode cX2_jump 120 = .ok (.invokestatic 58, 3) := by decide +kernel
theorem dX2_jump_123 : decode cX2_jump 123 = .ok (.putfield 27, 3) := by decide +kernel
theorem dX2_jump_126 : decode cX2_jump 126 = .ok (.goto 3, 3) := by decide +kernel
theorem dX2_jump_129 : decode cX2_jump 129 = .ok (.return_, 1) := by decide +kernel
set_option maxRecDepth 20000 in
theorem ggX2_store_X2_pageBit : GoodIn wsX2_store wsX2_pageBit := goodIn_r _ [6] (by decide +kernel) (by decide +kernel)
set_option maxRecDepth 20000 in
theorem gX2_store_X2_pageBit : GoodIn wsX2_store (va_wsS RX2 52 yX2_pageBit wsX2_pageBit) := goodIn_app (goodIn_of _ (by decide +kernel)) ggX2_store_X2_pageBit
theorem dX2_store_0 : decode cX2_store 0 = .ok (.aload_n 0, 1) := by decide +kernel
theorem dX2_store_1 : decode cX2_store 1 = .ok (.getfield 15, 3) := by decide +kernel
theorem dX2_store_4 : decode cX2_store 4 = .ok (.iload_n 1, 1) := by decide +kernel
theorem dX2_store_5 : decode cX2_store 5 = .ok (.iload_n 2, 1) := by decide +kernel
theorem dX2_store_6 : decode cX2_store 6 = .ok (.iastore, 1) := by decide +kernel
theorem dX2_store_7 : decode cX2_store 7 = .ok (.aload_n 0, 1) := by decide +kernel
theorem dX2_store_8 : decode cX2_store 8 = .ok (.dup, 1) := by decide +kernel
theorem dX2_store_9 : decode cX2_store 9 = .ok (.getfield 41, 3) := by decide +kernel
theorem dX2_store_12 : decode cX2_store 12 = .ok (.iload_n 1, 1) := by decide +kernel
theorem dX2_store_13 : decode cX2_store 13 = .ok (.invokestatic 52, 3) := by decide +kernel
theorem dX2_store_16 : decode cX2_store 16 = .ok (.ior, 1) := by decide +kernel
theorem dX2_store_17 : decode cX2_store 17 = .ok (.putfield 41, 3) := by decide +kernel
theorem dX2_store_20 : decode cX2_store 20 = .ok (.return_, 1) := by decide +kernel
theorem dX2_putOut_0 : decode cX2_putOut 0 = .ok (.aload_n 0, 1) := by decide +kernel
theorem dX2_putOut_1 : decode cX2_putOut 1 = .ok (.getfield 38, 3) := by decide +kernel
theorem dX2_putOut_4 : decode cX2_putOut 4 = .ok (.bipush 64, 2) := by decide +kernel
theorem dX2_putOut_6 : decode cX2_putOut 6 = .ok (.if_icmp .ge 13, 3) := by decide +kernel
theorem dX2_putOut_9 : decode cX2_putOut 9 = .ok (.aload_n 0, 1) := by decide +kernel
theorem dX2_putOut_10 : decode cX2_putOut 10 = .ok (.getfield 18, 3) := by decide +kernel
theorem dX2_putOut_13 : decode cX2_putOut 13 = .ok (.aload_n 0, 1) := by decide +kernel
theorem dX2_putOut_14 : decode cX2_putOut 14 = .ok (.getfield 38, 3) := by decide +kernel
theorem dX2_putOut_17 : decode cX2_putOut 17 = .ok (.iload_n 1, 1) := by decide +kernel
theorem dX2_putOut_18 : decode cX2_putOut 18 = .ok (.iastore, 1) := by decide +kernel
theorem dX2_putOut_19 : decode cX2_putOut 19 = .ok (.aload_n 0, 1) := by decide +kernel
theorem dX2_putOut_20 : decode cX2_putOut 20 = .ok (.dup, 1) := by decide +kernel
theorem dX2_putOut_21 : decode cX2_putOut 21 = .ok (.getfield 38, 3) := by decide +kernel
theorem dX2_putOut_24 : decode cX2_putOut 24 = .ok (.iconst 1, 1) := by decide +kernel
theorem dX2_putOut_25 : decode cX2_putOut 25 = .ok (.iadd, 1) := by decide +kernel
theorem dX2_putOut_26 : decode cX2_putOut 26 = .ok (.putfield 38, 3) := by decide +kernel
theorem dX2_putOut_29 : decode cX2_putOut 29 = .ok (.return_, 1) := by decide +kernel
set_option maxRecDepth 20000 in
theorem ggX2_target_X2_fieldB : GoodIn wsX2_target wsX2_fieldB := goodIn_r _ [5] (by decide +kernel) (by decide +kernel)
set_option maxRecDepth 20000 in
theorem gX2_target_X2_fieldB : GoodIn wsX2_target (va_wsS RX2 61 yX2_fieldB wsX2_fieldB) := goodIn_app (goodIn_of _ (by decide +kernel)) ggX2_target_X2_fieldB
set_option maxRecDepth 20000 in
theorem ggX2_target_X2_signedByte : GoodIn wsX2_target wsX2_signedByte := goodIn_r _ [8] (by decide +kernel) (by decide +kernel)
set_option maxRecDepth 20000 in
theorem gX2_target_X2_signedByte : GoodIn wsX2_target (va_wsS RX2 86 yX2_signedByte wsX2_signedByte) := goodIn_app (goodIn_of _ (by decide +kernel)) ggX2_target_X2_signedByte
set_option maxRecDepth 20000 in
theorem ggX2_target_X5_placeOf : GoodIn wsX2_target wsX5_placeOf := goodIn_r _ [11] (by decide +kernel) (by decide +kernel)
set_option maxRecDepth 20000 in
theorem gX2_target_X5_placeOf_n58 : GoodIn wsX2_target (wsX5_placeOf) := ggX2_target_X5_placeOf
theorem dX2_target_0 : decode cX2_target 0 = .ok (.aload_n 0, 1) := by decide +kernel
theorem dX2_target_1 : decode cX2_target 1 = .ok (.getfield 9, 3) := by decide +kernel
theorem dX2_target_4 : decode cX2_target 4 = .ok (.iload_n 1, 1) := by decide +kernel
theorem dX2_target_5 : decode cX2_target 5 = .ok (.invokestatic 61, 3) := by decide +kernel
theorem dX2_target_8 : decode cX2_target 8 = .ok (.iaload, 1) := by decide +kernel
theorem dX2_target_9 : decode cX2_target 9 = .ok (.iload_n 1, 1) := by decide +kernel
theorem dX2_target_10 : decode cX2_target 10 = .ok (.invokestatic 86, 3) := by decide +kernel
theorem dX2_target_13 : decode cX2_target 13 = .ok (.iadd, 1) := by decide +kernel
theorem dX2_target_14 : decode cX2_target 14 = .ok (.invokestatic 58, 3) := by decide +kernel
theorem dX2_target_17 : decode cX2_target 17 = .ok (.ireturn, 1) := by decide +kernel
theorem dX2_pageBit_0 : decode cX2_pageBit 0 = .ok (.iconst 1, 1) := by decide +kernel
theorem dX2_pageBit_1 : decode cX2_pageBit 1 = .ok (.iload_n 0, 1) := by decide +kernel
theorem dX2_pageBit_2 : decode cX2_pageBit 2 = .ok (.bipush 16, 2) := by decide +kernel
theorem dX2_pageBit_4 : decode cX2_pageBit 4 = .ok (.idiv, 1) := by decide +kernel
theorem dX2_pageBit_5 : decode cX2_pageBit 5 = .ok (.ishl, 1) := by decide +kernel
theorem dX2_pageBit_6 : decode cX2_pageBit 6 = .ok (.ireturn, 1) := by decide +kernel
theorem dX2_fieldA_0 : decode cX2_fieldA 0 = .ok (.iload_n 0, 1) := by decide +kernel
theorem dX2_fieldA_1 : decode cX2_fieldA 1 = .ok (.bipush 16, 2) := by decide +kernel
theorem dX2_fieldA_3 : decode cX2_fieldA 3 = .ok (.ishr, 1) := by decide +kernel
theorem dX2_fieldA_4 : decode cX2_fieldA 4 = .ok (.bipush 7, 2) := by decide +kernel
theorem dX2_fieldA_6 : decode cX2_fieldA 6 = .ok (.iand, 1) := by decide +kernel
theorem dX2_fieldA_7 : decode cX2_fieldA 7 = .ok (.ireturn, 1) := by decide +kernel
theorem dX2_fieldB_0 : decode cX2_fieldB 0 = .ok (.iload_n 0, 1) := by decide +kernel
theorem dX2_fieldB_1 : decode cX2_fieldB 1 = .ok (.bipush 8, 2) := by decide +kernel
theorem dX2_fieldB_3 : decode cX2_fieldB 3 = .ok (.ishr, 1) := by decide +kernel
theorem dX2_fieldB_4 : decode cX2_fieldB 4 = .ok (.bipush 7, 2) := by decide +kernel
theorem dX2_fieldB_6 : decode cX2_fieldB 6 = .ok (.iand, 1) := by decide +kernel
theorem dX2_fieldB_7 : decode cX2_fieldB 7 = .ok (.ireturn, 1) := by decide +kernel
theorem dX2_fieldC_0 : decode cX2_fieldC 0 = .ok (.iload_n 0, 1) := by decide +kernel
theorem dX2_fieldC_1 : decode cX2_fieldC 1 = .ok (.bipush 7, 2) := by decide +kernel
theorem dX2_fieldC_3 : decode cX2_fieldC 3 = .ok (.iand, 1) := by decide +kernel
theorem dX2_fieldC_4 : decode cX2_fieldC 4 = .ok (.ireturn, 1) := by decide +kernel
theorem dX2_signedByte_0 : decode cX2_signedByte 0 = .ok (.iload_n 0, 1) := by decide +kernel
theorem dX2_signedByte_1 : decode cX2_signedByte 1 = .ok (.i2b, 1) := by decide +kernel
theorem dX2_signedByte_2 : decode cX2_signedByte 2 = .ok (.ireturn, 1) := by decide +kernel
theorem dX2_signedHalf_0 : decode cX2_signedHalf 0 = .ok (.iload_n 0, 1) := by decide +kernel
theorem dX2_signedHalf_1 : decode cX2_signedHalf 1 = .ok (.i2s, 1) := by decide +kernel
theorem dX2_signedHalf_2 : decode cX2_signedHalf 2 = .ok (.ireturn, 1) := by decide +kernel
theorem dX3_init_0 : decode cX3_init 0 = .ok (.aload_n 0, 1) := by decide +kernel
theorem dX3_init_1 : decode cX3_init 1 = .ok (.invokespecial 3, 3) := by decide +kernel
theorem dX3_init_4 : decode cX3_init 4 = .ok (.aload_n 0, 1) := by decide +kernel
theorem dX3_init_5 : decode cX3_init 5 = .ok (.bipush 8, 2) := by decide +kernel
theorem dX3_init_7 : decode cX3_init 7 = .ok (.newarray .int, 2) := by decide +kernel
theorem dX3_init_9 : decode cX3_init 9 = .ok (.putfield 9, 3) := by decide +kernel
theorem dX3_init_12 : decode cX3_init 12 = .ok (.return_, 1) := by decide +kernel
set_option maxRecDepth 20000 in
theorem ggX3_pageCount_J6_bitCount_0f7a4 : GoodIn wsX3_pageCount wsJ6_bitCount_0f7a4 := goodIn_r _ [5, 6, 7, 8] (by decide +kernel) (by decide +kernel)
set_option maxRecDepth 20000 in
theorem gX3_pageCount_J6_bitCount_0f7a4 : GoodIn wsX3_pageCount (va_wsS RX3 19 yJ6_bitCount_0f7a4 wsJ6_bitCount_0f7a4) := goodIn_app (goodIn_of _ (by decide +kernel)) ggX3_pageCount_J6_bitCount_0f7a4
theorem dX3_pageCount_0 : decode cX3_pageCount 0 = .ok (.aload_n 0, 1) := by decide +kernel
theorem dX3_pageCount_1 : decode cX3_pageCount 1 = .ok (.getfield 15, 3) := by decide +kernel
theorem dX3_pageCount_4 : decode cX3_pageCount 4 = .ok (.invokestatic 19, 3) := by decide +kernel
theorem dX3_pageCount_7 : decode cX3_pageCount 7 = .ok (.ireturn, 1) := by decide +kernel
theorem dX3_hasPage_0 : decode cX3_hasPage 0 = .ok (.aload_n 0, 1) := by decide +kernel
theorem dX3_hasPage_1 : decode cX3_hasPage 1 = .ok (.getfield 15, 3) := by decide +kernel
theorem dX3_hasPage_4 : decode cX3_hasPage 4 = .ok (.iload_n 1, 1) := by decide +kernel
theorem dX3_hasPage_5 : decode cX3_hasPage 5 = .ok (.iushr, 1) := by decide +kernel
theorem dX3_hasPage_6 : decode cX3_hasPage 6 = .ok (.iconst 1, 1) := by decide +kernel
theorem dX3_hasPage_7 : decode cX3_hasPage 7 = .ok (.iand, 1) := by decide +kernel
theorem dX3_hasPage_8 : decode cX3_hasPage 8 = .ok (.iconst 1, 1) := by decide +kernel
theorem dX3_hasPage_9 : decode cX3_hasPage 9 = .ok (.if_icmp .ne 7, 3) := by decide +kernel
theorem dX3_hasPage_12 : decode cX3_hasPage 12 = .ok (.iconst 1, 1) := by decide +kernel
theorem dX3_hasPage_13 : decode cX3_hasPage 13 = .ok (.goto 4, 3) := by decide +kernel
theorem dX3_hasPage_16 : decode cX3_hasPage 16 = .ok (.iconst 0, 1) := by decide +kernel
theorem dX3_hasPage_17 : decode cX3_hasPage 17 = .ok (.ireturn, 1) := by decide +kernel
theorem dX3_takeFrom_0 : decode cX3_takeFrom 0 = .ok (.aload_n 1, 1) := by decide +kernel
theorem dX3_takeFrom_1 : decode cX3_takeFrom 1 = .ok (.getfield 25, 3) := by decide +kernel
theorem dX3_takeFrom_4 : decode cX3_takeFrom 4 = .ok (.iconst 0, 1) := by decide +kernel
theorem dX3_takeFrom_5 : decode cX3_takeFrom 5 = .ok (.aload_n 0, 1) := by decide +kernel
theorem dX3_takeFrom_6 : decode cX3_takeFrom 6 = .ok (.getfield 9, 3) := by decide +kernel
theorem dX3_takeFrom_9 : decode cX3_takeFrom 9 = .ok (.iconst 0, 1) := by decide +kernel
theorem dX3_takeFrom_10 : decode cX3_takeFrom 10 = .ok (.bipush 8, 2) := by decide +kernel
theorem dX3_takeFrom_12 : decode cX3_takeFrom 12 = .ok (.invokestatic 28, 3) := by decide +kernel
theorem dX3_takeFrom_15 : decode cX3_takeFrom 15 = .ok (.aload_n 0, 1) := by decide +kernel
theorem dX3_takeFrom_16 : decode cX3_takeFrom 16 = .ok (.aload_n 1, 1) := by decide +kernel
theorem dX3_takeFrom_17 : decode cX3_takeFrom 17 = .ok (.getfield 34, 3) := by decide +kernel
theorem dX3_takeFrom_20 : decode cX3_takeFrom 20 = .ok (.putfield 37, 3) := by decide +kernel
theorem dX3_takeFrom_23 : decode cX3_takeFrom 23 = .ok (.aload_n 0, 1) := by decide +kernel
theorem dX3_takeFrom_24 : decode cX3_takeFrom 24 = .ok (.aload_n 1, 1) := by decide +kernel
theorem dX3_takeFrom_25 : decode cX3_takeFrom 25 = .ok (.getfield 38, 3) := by decide +kernel
theorem dX3_takeFrom_28 : decode cX3_takeFrom 28 = .ok (.putfield 41, 3) := by decide +kernel
theorem dX3_takeFrom_31 : decode cX3_takeFrom 31 = .ok (.aload_n 0, 1) := by decide +kernel
theorem dX3_takeFrom_32 : decode cX3_takeFrom 32 = .ok (.aload_n 1, 1) := by decide +kernel
theorem dX3_takeFrom_33 : decode cX3_takeFrom 33 = .ok (.getfield 42, 3) := by decide +kernel
theorem dX3_takeFrom_36 : decode cX3_takeFrom 36 = .ok (.putfield 46, 3) := by decide +kernel
theorem dX3_takeFrom_39 : decode cX3_takeFrom 39 = .ok (.aload_n 0, 1) := by decide +kernel
theorem dX3_takeFrom_40 : decode cX3_takeFrom 40 = .ok (.aload_n 1, 1) := by decide +kernel
theorem dX3_takeFrom_41 : decode cX3_takeFrom 41 = .ok (.getfield 47, 3) := by decide +kernel
theorem dX3_takeFrom_44 : decode cX3_takeFrom 44 = .ok (.putfield 50, 3) := by decide +kernel
theorem dX3_takeFrom_47 : decode cX3_takeFrom 47 = .ok (.aload_n 0, 1) := by decide +kernel
theorem dX3_takeFrom_48 : decode cX3_takeFrom 48 = .ok (.aload_n 1, 1) := by decide +kernel
theorem dX3_takeFrom_49 : decode cX3_takeFrom 49 = .ok (.getfield 51, 3) := by decide +kernel
theorem dX3_takeFrom_52 : decode cX3_takeFrom 52 = .ok (.putfield 15, 3) := by decide +kernel
theorem dX3_takeFrom_55 : decode cX3_takeFrom 55 = .ok (.return_, 1) := by decide +kernel
theorem dX3_giveBackTo_0 : decode cX3_giveBackTo 0 = .ok (.aload_n 0, 1) := by decide +kernel
theorem dX3_giveBackTo_1 : decode cX3_giveBackTo 1 = .ok (.getfield 9, 3) := by decide +kernel
theorem dX3_giveBackTo_4 : decode cX3_giveBackTo 4 = .ok (.iconst 0, 1) := by decide +kernel
theorem dX3_giveBackTo_5 : decode cX3_giveBackTo 5 = .ok (.aload_n 1, 1) := by decide +kernel
theorem dX3_giveBackTo_6 : decode cX3_giveBackTo 6 = .ok (.getfield 25, 3) := by decide +kernel
theorem dX3_giveBackTo_9 : decode cX3_giveBackTo 9 = .ok (.iconst 0, 1) := by decide +kernel
theorem dX3_giveBackTo_10 : decode cX3_giveBackTo 10 = .ok (.bipush 8, 2) := by decide +kernel
theorem dX3_giveBackTo_12 : decode cX3_giveBackTo 12 = .ok (.invokestatic 28, 3) := by decide +kernel
theorem dX3_giveBackTo_15 : decode cX3_giveBackTo 15 = .ok (.aload_n 1, 1) := by decide +kernel
theorem dX3_giveBackTo_16 : decode cX3_giveBackTo 16 = .ok (.aload_n 0, 1) := by decide +kernel
theorem dX3_giveBackTo_17 : decode cX3_giveBackTo 17 = .ok (.getfield 37, 3) := by decide +kernel
theorem dX3_giveBackTo_20 : decode cX3_giveBackTo 20 = .ok (.putfield 34, 3) := by decide +kernel
theorem dX3_giveBackTo_23 : decode cX3_giveBackTo 23 = .ok (.aload_n 1, 1) := by decide +kernel
theorem dX3_giveBackTo_24 : decode cX3_giveBackTo 24 = .ok (.aload_n 0, 1) := by decide +kernel
theorem dX3_giveBackTo_25 : decode cX3_giveBackTo 25 = .ok (.getfield 41, 3) := by decide +kernel
theorem dX3_giveBackTo_28 : decode cX3_giveBackTo 28 = .ok (.putfield 38, 3) := by decide +kernel
theorem dX3_giveBackTo_31 : decode cX3_giveBackTo 31 = .ok (.aload_n 1, 1) := by decide +kernel
theorem dX3_giveBackTo_32 : decode cX3_giveBackTo 32 = .ok (.aload_n 0, 1) := by decide +kernel
theorem dX3_giveBackTo_33 : decode cX3_giveBackTo 33 = .ok (.getfield 46, 3) := by decide +kernel
theorem dX3_giveBackTo_36 : decode cX3_giveBackTo 36 = .ok (.putfield 42, 3) := by decide +kernel
theorem dX3_giveBackTo_39 : decode cX3_giveBackTo 39 = .ok (.aload_n 1, 1) := by decide +kernel
theorem dX3_giveBackTo_40 : decode cX3_giveBackTo 40 = .ok (.aload_n 0, 1) := by decide +kernel
theorem dX3_giveBackTo_41 : decode cX3_giveBackTo 41 = .ok (.getfield 50, 3) := by decide +kernel
theorem dX3_giveBackTo_44 : decode cX3_giveBackTo 44 = .ok (.putfield 47, 3) := by decide +kernel
theorem dX3_giveBackTo_47 : decode cX3_giveBackTo 47 = .ok (.aload_n 1, 1) := by decide +kernel
theorem dX3_giveBackTo_48 : decode cX3_giveBackTo 48 = .ok (.iconst 0, 1) := by decide +kernel
theorem dX3_giveBackTo_49 : decode cX3_giveBackTo 49 = .ok (.putfield 51, 3) := by decide +kernel
theorem dX3_giveBackTo_52 : decode cX3_giveBackTo 52 = .ok (.return_, 1) := by decide +kernel
set_option maxRecDepth 20000 in
theorem ggX4_init_X3_init : GoodIn wsX4_init wsX3_init := goodIn_r _ [13, 14, 2, 3, 4, 15, 21, 22, 23, 24, 25, 26, 27] (by decide +kernel) (by decide +kernel)
set_option maxRecDepth 20000 in
theorem gX4_init_X3_init : GoodIn wsX4_init (wsX3_init) := ggX4_init_X3_init
theorem dX4_init_0 : decode cX4_init 0 = .ok (.aload_n 0, 1) := by decide +kernel
theorem dX4_init_1 : decode cX4_init 1 = .ok (.invokespecial 3, 3) := by decide +kernel
theorem dX4_init_4 : decode cX4_init 4 = .ok (.aload_n 0, 1) := by decide +kernel
theorem dX4_init_5 : decode cX4_init 5 = .ok (.sipush 512, 3) := by decide +kernel
theorem dX4_init_8 : decode cX4_init 8 = .ok (.newarray .int, 2) := by decide +kernel
theorem dX4_init_10 : decode cX4_init 10 = .ok (.putfield 9, 3) := by decide +kernel
theorem dX4_init_13 : decode cX4_init 13 = .ok (.aload_n 0, 1) := by decide +kernel
theorem dX4_init_14 : decode cX4_init 14 = .ok (.sipush 4800, 3) := by decide +kernel
theorem dX4_init_17 : decode cX4_init 17 = .ok (.newarray .int, 2) := by decide +kernel
theorem dX4_init_19 : decode cX4_init 19 = .ok (.putfield 15, 3) := by decide +kernel
theorem dX4_init_22 : decode cX4_init 22 = .ok (.aload_n 0, 1) := by decide +kernel
theorem dX4_init_23 : decode cX4_init 23 = .ok (.bipush 40, 2) := by decide +kernel
theorem dX4_init_25 : decode cX4_init 25 = .ok (.anewarray 18, 3) := by decide +kernel
theorem dX4_init_28 : decode cX4_init 28 = .ok (.putfield 20, 3) := by decide +kernel
theorem dX4_init_31 : decode cX4_init 31 = .ok (.iconst 0, 1) := by decide +kernel
theorem dX4_init_32 : decode cX4_init 32 = .ok (.istore_n 1, 1) := by decide +kernel
theorem dX4_init_33 : decode cX4_init 33 = .ok (.iload_n 1, 1) := by decide +kernel
theorem dX4_init_34 : decode cX4_init 34 = .ok (.bipush 40, 2) := by decide +kernel
theorem dX4_init_36 : decode cX4_init 36 = .ok (.if_icmp .ge 22, 3) := by decide +kernel
theorem dX4_init_39 : decode cX4_init 39 = .ok (.aload_n 0, 1) := by decide +kernel
theorem dX4_init_40 : decode cX4_init 40 = .ok (.getfield 20, 3) := by decide +kernel
theorem dX4_init_43 : decode cX4_init 43 = .ok (.iload_n 1, 1) := by decide +kernel
theorem dX4_init_44 : decode cX4_init 44 = .ok (.new 18, 3) := by decide +kernel
theorem dX4_init_47 : decode cX4_init 47 = .ok (.dup, 1) := by decide +kernel
theorem dX4_init_48 : decode cX4_init 48 = .ok (.invokespecial 24, 3) := by decide +kernel
theorem dX4_init_51 : decode cX4_init 51 = .ok (.aastore, 1) := by decide +kernel
theorem dX4_init_52 : decode cX4_init 52 = .ok (.iinc 1 1, 3) := by decide +kernel
theorem dX4_init_55 : decode cX4_init 55 = .ok (.goto (-22), 3) := by decide +kernel
theorem dX4_init_58 : decode cX4_init 58 = .ok (.return_, 1) := by decide +kernel
set_option maxRecDepth 20000 in
theorem ggX4_begin_X4_add : GoodIn wsX4_begin wsX4_add := goodIn_r _ [13, 14, 7, 8, 15, 1, 16, 3, 4, 5, 6, 17, 18, 19, 20, 21, 22, 23, 24, 25, 26, 27, 28, 29, 30, 31, 32, 33, 34, 35, 36, 37, 38, 47, 48, 49, 50, 51, 52, 53, 54, 55, 56, 57, 58, 39, 40, 41, 42, 43, 44, 45, 46] (by decide +kernel) (by decide +kernel)
set_option maxRecDepth 20000 in
theorem gX4_begin_X4_add : GoodIn wsX4_begin (wsV RX4 43 RX4 yX4_add wsX4_add) := goodIn_app (goodIn_of _ (by decide +kernel)) ggX4_begin_X4_add
theorem dX4_begin_0 : decode cX4_begin 0 = .ok (.aload_n 1, 1) := by decide +kernel
theorem dX4_begin_1 : decode cX4_begin 1 = .ok (.getfield 25, 3) := by decide +kernel
theorem dX4_begin_4 : decode cX4_begin 4 = .ok (.iconst 0, 1) := by decide +kernel
theorem dX4_begin_5 : decode cX4_begin 5 = .ok (.aload_n 0, 1) := by decide +kernel
theorem dX4_begin_6 : decode cX4_begin 6 = .ok (.getfield 9, 3) := by decide +kernel
theorem dX4_begin_9 : decode cX4_begin 9 = .ok (.iconst 0, 1) := by decide +kernel
theorem dX4_begin_10 : decode cX4_begin 10 = .ok (.sipush 512, 3) := by decide +kernel
theorem dX4_begin_13 : decode cX4_begin 13 = .ok (.invokestatic 30, 3) := by decide +kernel
theorem dX4_begin_16 : decode cX4_begin 16 = .ok (.aload_n 0, 1) := by decide +kernel
theorem dX4_begin_17 : decode cX4_begin 17 = .ok (.iconst 0, 1) := by decide +kernel
theorem dX4_begin_18 : decode cX4_begin 18 = .ok (.putfield 36, 3) := by decide +kernel
theorem dX4_begin_21 : decode cX4_begin 21 = .ok (.aload_n 0, 1) := by decide +kernel
theorem dX4_begin_22 : decode cX4_begin 22 = .ok (.iconst 0, 1) := by decide +kernel
theorem dX4_begin_23 : decode cX4_begin 23 = .ok (.putfield 40, 3) := by decide +kernel
theorem dX4_begin_26 : decode cX4_begin 26 = .ok (.aload_n 0, 1) := by decide +kernel
theorem dX4_begin_27 : decode cX4_begin 27 = .ok (.aload_n 1, 1) := by decide +kernel
theorem dX4_begin_28 : decode cX4_begin 28 = .ok (.invokevirtual 43, 3) := by decide +kernel
theorem dX4_begin_31 : decode cX4_begin 31 = .ok (.return_, 1) := by decide +kernel
set_option maxRecDepth 20000 in
theorem ggX4_hasRoomFor_J6_bitCount_0f7a4 : GoodIn wsX4_hasRoomFor wsJ6_bitCount_0f7a4 := goodIn_r _ [6, 7, 8, 9] (by decide +kernel) (by decide +kernel)
set_option maxRecDepth 20000 in
theorem gX4_hasRoomFor_J6_bitCount_0f7a4 : GoodIn wsX4_hasRoomFor (va_wsS RX4 47 yJ6_bitCount_0f7a4 wsJ6_bitCount_0f7a4) := goodIn_app (goodIn_of _ (by decide +kernel)) ggX4_hasRoomFor_J6_bitCount_0f7a4
theorem dX4_hasRoomFor_0 : decode cX4_hasRoomFor 0 = .ok (.aload_n 0, 1) := by decide +kernel
theorem dX4_hasRoomFor_1 : decode cX4_hasRoomFor 1 = .ok (.getfield 36, 3) := by decide +kernel
theorem dX4_hasRoomFor_4 : decode cX4_hasRoomFor 4 = .ok (.bipush 40, 2) := by decide +kernel
theorem dX4_hasRoomFor_6 : decode cX4_hasRoomFor 6 = .ok (.if_icmp .ge 22, 3) := by decide +kernel
theorem dX4_hasRoomFor_9 : decode cX4_hasRoomFor 9 = .ok (.aload_n 0, 1) := by decide +kernel
theorem dX4_hasRoomFor_10 : decode cX4_hasRoomFor 10 = .ok (.getfield 40, 3) := by decide +kernel
theorem dX4_hasRoomFor_13 : decode cX4_hasRoomFor 13 = .ok (.iload_n 1, 1) := by decide +kernel
theorem dX4_hasRoomFor_14 : decode cX4_hasRoomFor 14 = .ok (.invokestatic 47, 3) := by decide +kernel
theorem dX4_hasRoomFor_17 : decode cX4_hasRoomFor 17 = .ok (.iadd, 1) := by decide +kernel
theorem dX4_hasRoomFor_18 : decode cX4_hasRoomFor 18 = .ok (.sipush 300, 3) := by decide +kernel
theorem dX4_hasRoomFor_21 : decode cX4_hasRoomFor 21 = .ok (.if_icmp .gt 7, 3) := by decide +kernel
theorem dX4_hasRoomFor_24 : decode cX4_hasRoomFor 24 = .ok (.iconst 1, 1) := by decide +kernel
theorem dX4_hasRoomFor_25 : decode cX4_hasRoomFor 25 = .ok (.goto 4, 3) := by decide +kernel
theorem dX4_hasRoomFor_28 : decode cX4_hasRoomFor 28 = .ok (.iconst 0, 1) := by decide +kernel
theorem dX4_hasRoomFor_29 : decode cX4_hasRoomFor 29 = .ok (.ireturn, 1) := by decide +kernel
set_option maxRecDepth 20000 in
theorem ggX4_add_X3_takeFrom : GoodIn wsX4_add wsX3_takeFrom := goodIn_r _ [15, 16, 17, 18, 8, 9, 10, 19, 20, 21, 22, 23, 24, 25, 26, 27, 28, 45, 46, 47, 48, 49, 50, 51, 52, 38, 39, 40, 41, 42, 43, 44] (by decide +kernel) (by decide +kernel)
set_option maxRecDepth 20000 in
theorem gX4_add_X3_takeFrom : GoodIn wsX4_add (wsV RX4 53 RX3 yX3_takeFrom wsX3_takeFrom) := goodIn_app (goodIn_of _ (by decide +kernel)) ggX4_add_X3_takeFrom
set_option maxRecDepth 20000 in
theorem ggX4_add_X3_hasPage : GoodIn wsX4_add wsX3_hasPage := goodIn_r _ [32, 28, 38, 39, 40, 41, 42, 43, 44] (by decide +kernel) (by decide +kernel)
set_option maxRecDepth 20000 in
theorem gX4_add_X3_hasPage : GoodIn wsX4_add (wsV RX4 59 RX3 yX3_hasPage wsX3_hasPage) := goodIn_app (goodIn_of _ (by decide +kernel)) ggX4_add_X3_hasPage
theorem dX4_add_0 : decode cX4_add 0 = .ok (.aload_n 0, 1) := by decide +kernel
theorem dX4_add_1 : decode cX4_add 1 = .ok (.getfield 20, 3) := by decide +kernel
theorem dX4_add_4 : decode cX4_add 4 = .ok (.aload_n 0, 1) := by decide +kernel
theorem dX4_add_5 : decode cX4_add 5 = .ok (.getfield 36, 3) := by decide +kernel
theorem dX4_add_8 : decode cX4_add 8 = .ok (.aaload, 1) := by decide +kernel
theorem dX4_add_9 : decode cX4_add 9 = .ok (.astore_n 2, 1) := by decide +kernel
theorem dX4_add_10 : decode cX4_add 10 = .ok (.aload_n 2, 1) := by decide +kernel
theorem dX4_add_11 : decode cX4_add 11 = .ok (.aload_n 1, 1) := by decide +kernel
theorem dX4_add_12 : decode cX4_add 12 = .ok (.invokevirtual 53, 3) := by decide +kernel
theorem dX4_add_15 : decode cX4_add 15 = .ok (.aload_n 2, 1) := by decide +kernel
theorem dX4_add_16 : decode cX4_add 16 = .ok (.aload_n 0, 1) := by decide +kernel
theorem dX4_add_17 : decode cX4_add 17 = .ok (.getfield 40, 3) := by decide +kernel
theorem dX4_add_20 : decode cX4_add 20 = .ok (.putfield 56, 3) := by decide +kernel
theorem dX4_add_23 : decode cX4_add 23 = .ok (.iconst 0, 1) := by decide +kernel
theorem dX4_add_24 : decode cX4_add 24 = .ok (.istore_n 3, 1) := by decide +kernel
theorem dX4_add_25 : decode cX4_add 25 = .ok (.iload_n 3, 1) := by decide +kernel
theorem dX4_add_26 : decode cX4_add 26 = .ok (.bipush 32, 2) := by decide +kernel
theorem dX4_add_28 : decode cX4_add 28 = .ok (.if_icmp .ge 51, 3) := by decide +kernel
theorem dX4_add_31 : decode cX4_add 31 = .ok (.aload_n 2, 1) := by decide +kernel
theorem dX4_add_32 : decode cX4_add 32 = .ok (.iload_n 3, 1) := by decide +kernel
theorem dX4_add_33 : decode cX4_add 33 = .ok (.invokevirtual 59, 3) := by decide +kernel
theorem dX4_add_36 : decode cX4_add 36 = .ok (.ifCond .eq 37, 3) := by decide +kernel
theorem dX4_add_39 : decode cX4_add 39 = .ok (.aload_n 1, 1) := by decide +kernel
theorem dX4_add_40 : decode cX4_add 40 = .ok (.getfield 25, 3) := by decide +kernel
theorem dX4_add_43 : decode cX4_add 43 = .ok (.iload_n 3, 1) := by decide +kernel
theorem dX4_add_44 : decode cX4_add 44 = .ok (.bipush 16, 2) := by decide +kernel
theorem dX4_add_46 : decode cX4_add 46 = .ok (.imul, 1) := by decide +kernel
theorem dX4_add_47 : decode cX4_add 47 = .ok (.aload_n 0, 1) := by decide +kernel
theorem dX4_add_48 : decode cX4_add 48 = .ok (.getfield 15, 3) := by decide +kernel
theorem dX4_add_51 : decode cX4_add 51 = .ok (.aload_n 0, 1) := by decide +kernel
theorem dX4_add_52 : decode cX4_add 52 = .ok (.getfield 40, 3) := by decide +kernel
theorem dX4_add_55 : decode cX4_add 55 = .ok (.bipush 16, 2) := by decide +kernel
theorem dX4_add_57 : decode cX4_add 57 = .ok (.imul, 1) := by decide +kernel
theorem dX4_add_58 : decode cX4_add 58 = .ok (.bipush 16, 2) := by decide +kernel
theorem dX4_add_60 : decode cX4_add 60 = .ok (.invokestatic 30, 3) := by decide +kernel
theorem dX4_add_63 : decode cX4_add 63 = .ok (.aload_n 0, 1) := by decide +kernel
theorem dX4_add_64 : decode cX4_add 64 = .ok (.dup, 1) := by decide +kernel
theorem dX4_add_65 : decode cX4_add 65 = .ok (.getfield 40, 3) := by decide +kernel
theorem dX4_add_68 : decode cX4_add 68 = .ok (.iconst 1, 1) := by decide +kernel
theorem dX4_add_69 : decode cX4_add 69 = .ok (.iadd, 1) := by decide +kernel
theorem dX4_add_70 : decode cX4_add 70 = .ok (.putfield 40, 3) := by decide +kernel
theorem dX4_add_73 : decode cX4_add 73 = .ok (.iinc 3 1, 3) := by decide +kernel
theorem dX4_add_76 : decode cX4_add 76 = .ok (.goto (-51), 3) := by decide +kernel
theorem dX4_add_79 : decode cX4_add 79 = .ok (.aload_n 0, 1) := by decide +kernel
theorem dX4_add_80 : decode cX4_add 80 = .ok (.dup, 1) := by decide +kernel
theorem dX4_add_81 : decode cX4_add 81 = .ok (.getfield 36, 3) := by decide +kernel
theorem dX4_add_84 : decode cX4_add 84 = .ok (.iconst 1, 1) := by decide +kernel
theorem dX4_add_85 : decode cX4_add 85 = .ok (.iadd, 1) := by decide +kernel
theorem dX4_add_86 : decode cX4_add 86 = .ok (.putfield 36, 3) := by decide +kernel
theorem dX4_add_89 : decode cX4_add 89 = .ok (.return_, 1) := by decide +kernel
set_option maxRecDepth 20000 in
theorem ggX4_keepFirst_X3_pageCount : GoodIn wsX4_keepFirst wsX3_pageCount := goodIn_r _ [9, 10, 11, 12, 13, 14, 15, 16, 17, 23, 24, 25, 26, 27, 28, 29] (by decide +kernel) (by decide +kernel)
set_option maxRecDepth 20000 in
theorem gX4_keepFirst_X3_pageCount : GoodIn wsX4_keepFirst (wsV RX4 63 RX3 yX3_pageCount wsX3_pageCount) := goodIn_app (goodIn_of _ (by decide +kernel)) ggX4_keepFirst_X3_pageCount
theorem dX4_keepFirst_0 : decode cX4_keepFirst 0 = .ok (.aload_n 0, 1) := by decide +kernel
theorem dX4_keepFirst_1 : decode cX4_keepFirst 1 = .ok (.getfield 20, 3) := by decide +kernel
theorem dX4_keepFirst_4 : decode cX4_keepFirst 4 = .ok (.iload_n 1, 1) := by decide +kernel
theorem dX4_keepFirst_5 : decode cX4_keepFirst 5 = .ok (.iconst 1, 1) := by decide +kernel
theorem dX4_keepFirst_6 : decode cX4_keepFirst 6 = .ok (.isub, 1) := by decide +kernel
theorem dX4_keepFirst_7 : decode cX4_keepFirst 7 = .ok (.aaload, 1) := by decide +kernel
theorem dX4_keepFirst_8 : decode cX4_keepFirst 8 = .ok (.astore_n 2, 1) := by decide +kernel
theorem dX4_keepFirst_9 : decode cX4_keepFirst 9 = .ok (.aload_n 0, 1) := by decide +kernel
theorem dX4_keepFirst_10 : decode cX4_keepFirst 10 = .ok (.iload_n 1, 1) := by decide +kernel
theorem dX4_keepFirst_11 : decode cX4_keepFirst 11 = .ok (.putfield 36, 3) := by decide +kernel
theorem dX4_keepFirst_14 : decode cX4_keepFirst 14 = .ok (.aload_n 0, 1) := by decide +kernel
theorem dX4_keepFirst_15 : decode cX4_keepFirst 15 = .ok (.aload_n 2, 1) := by decide +kernel
theorem dX4_keepFirst_16 : decode cX4_keepFirst 16 = .ok (.getfield 56, 3) := by decide +kernel
theorem dX4_keepFirst_19 : decode cX4_keepFirst 19 = .ok (.aload_n 2, 1) := by decide +kernel
theorem dX4_keepFirst_20 : decode cX4_keepFirst 20 = .ok (.invokevirtual 63, 3) := by decide +kernel
theorem dX4_keepFirst_23 : decode cX4_keepFirst 23 = .ok (.iadd, 1) := by decide +kernel
theorem dX4_keepFirst_24 : decode cX4_keepFirst 24 = .ok (.putfield 40, 3) := by decide +kernel
theorem dX4_keepFirst_27 : decode cX4_keepFirst 27 = .ok (.return_, 1) := by decide +kernel
set_option maxRecDepth 20000 in
theorem ggX4_restore_X4_layPages : GoodIn wsX4_restore wsX4_layPages := goodIn_r _ [12, 13, 14, 3, 4, 5, 6, 15, 16, 17, 18, 19, 20, 50, 51, 52, 53, 54, 55, 56, 37, 38, 39, 40, 41] (by decide +kernel) (by decide +kernel)
set_option maxRecDepth 20000 in
theorem gX4_restore_X4_layPages : GoodIn wsX4_restore (wsV RX4 67 RX4 yX4_layPages wsX4_layPages) := goodIn_app (goodIn_of _ (by decide +kernel)) ggX4_restore_X4_layPages
set_option maxRecDepth 20000 in
theorem ggX4_restore_X3_giveBackTo : GoodIn wsX4_restore wsX3_giveBackTo := goodIn_r _ [24, 25, 26, 27, 4, 5, 6, 28, 29, 30, 31, 32, 33, 34, 35, 36, 50, 51, 52, 53, 54, 55, 56, 42, 43, 44, 45, 46, 47, 48, 49] (by decide +kernel) (by decide +kernel)
set_option maxRecDepth 20000 in
theorem gX4_restore_X3_giveBackTo : GoodIn wsX4_restore (wsV RX4 71 RX3 yX3_giveBackTo wsX3_giveBackTo) := goodIn_app (goodIn_of _ (by decide +kernel)) ggX4_restore_X3_giveBackTo
theorem dX4_restore_0 : decode cX4_restore 0 = .ok (.aload_n 0, 1) := by decide +kernel
theorem dX4_restore_1 : decode cX4_restore 1 = .ok (.getfield 9, 3) := by decide +kernel
theorem dX4_restore_4 : decode cX4_restore 4 = .ok (.iconst 0, 1) := by decide +kernel
theorem dX4_restore_5 : decode cX4_restore 5 = .ok (.aload_n 2, 1) := by decide +kernel
theorem dX4_restore_6 : decode cX4_restore 6 = .ok (.getfield 25, 3) := by decide +kernel
theorem dX4_restore_9 : decode cX4_restore 9 = .ok (.iconst 0, 1) := by decide +kernel
theorem dX4_restore_10 : decode cX4_restore 10 = .ok (.sipush 512, 3) := by decide +kernel
theorem dX4_restore_13 : decode cX4_restore 13 = .ok (.invokestatic 30, 3) := by decide +kernel
theorem dX4_restore_16 : decode cX4_restore 16 = .ok (.iconst 1, 1) := by decide +kernel
theorem dX4_restore_17 : decode cX4_restore 17 = .ok (.istore_n 3, 1) := by decide +kernel
theorem dX4_restore_18 : decode cX4_restore 18 = .ok (.iload_n 3, 1) := by decide +kernel
theorem dX4_restore_19 : decode cX4_restore 19 = .ok (.iload_n 1, 1) := by decide +kernel
theorem dX4_restore_20 : decode cX4_restore 20 = .ok (.if_icmp .gt 23, 3) := by decide +kernel
theorem dX4_restore_23 : decode cX4_restore 23 = .ok (.aload_n 0, 1) := by decide +kernel
theorem dX4_restore_24 : decode cX4_restore 24 = .ok (.aload_n 0, 1) := by decide +kernel
theorem dX4_restore_25 : decode cX4_restore 25 = .ok (.getfield 20, 3) := by decide +kernel
theorem dX4_restore_28 : decode cX4_restore 28 = .ok (.iload_n 3, 1) := by decide +kernel
theorem dX4_restore_29 : decode cX4_restore 29 = .ok (.aaload, 1) := by decide +kernel
theorem dX4_restore_30 : decode cX4_restore 30 = .ok (.aload_n 2, 1) := by decide +kernel
theorem dX4_restore_31 : decode cX4_restore 31 = .ok (.getfield 25, 3) := by decide +kernel
theorem dX4_restore_34 : decode cX4_restore 34 = .ok (.invokevirtual 67, 3) := by decide +kernel
theorem dX4_restore_37 : decode cX4_restore 37 = .ok (.iinc 3 1, 3) := by decide +kernel
theorem dX4_restore_40 : decode cX4_restore 40 = .ok (.goto (-22), 3) := by decide +kernel
theorem dX4_restore_43 : decode cX4_restore 43 = .ok (.aload_n 0, 1) := by decide +kernel
theorem dX4_restore_44 : decode cX4_restore 44 = .ok (.getfield 20, 3) := by decide +kernel
theorem dX4_restore_47 : decode cX4_restore 47 = .ok (.iload_n 1, 1) := by decide +kernel
theorem dX4_restore_48 : decode cX4_restore 48 = .ok (.aaload, 1) := by decide +kernel
theorem dX4_restore_49 : decode cX4_restore 49 = .ok (.aload_n 2, 1) := by decide +kernel
theorem dX4_restore_50 : decode cX4_restore 50 = .ok (.invokevirtual 71, 3) := by decide +kernel
theorem dX4_restore_53 : decode cX4_restore 53 = .ok (.return_, 1) := by decide +kernel
set_option maxRecDepth 20000 in
theorem ggX4_layPages_X3_hasPage : GoodIn wsX4_layPages wsX3_hasPage := goodIn_r _ [11, 12, 13, 14, 15, 16, 17, 18, 19] (by decide +kernel) (by decide +kernel)
set_option maxRecDepth 20000 in
theorem gX4_layPages_X3_hasPage : GoodIn wsX4_layPages (wsV RX4 59 RX3 yX3_hasPage wsX3_hasPage) := goodIn_app (goodIn_of _ (by decide +kernel)) ggX4_layPages_X3_hasPage
theorem dX4_layPages_0 : decode cX4_layPages 0 = .ok (.aload_n 1, 1) := by decide +kernel
theorem dX4_layPages_1 : decode cX4_layPages 1 = .ok (.getfield 56, 3) := by decide +kernel
theorem dX4_layPages_4 : decode cX4_layPages 4 = .ok (.istore_n 3, 1) := by decide +kernel
theorem dX4_layPages_5 : decode cX4_layPages 5 = .ok (.iconst 0, 1) := by decide +kernel
theorem dX4_layPages_6 : decode cX4_layPages 6 = .ok (.istore 4, 2) := by decide +kernel
theorem dX4_layPages_8 : decode cX4_layPages 8 = .ok (.iload 4, 2) := by decide +kernel
theorem dX4_layPages_10 : decode cX4_layPages 10 = .ok (.bipush 32, 2) := by decide +kernel
theorem dX4_layPages_12 : decode cX4_layPages 12 = .ok (.if_icmp .ge 40, 3) := by decide +kernel
theorem dX4_layPages_15 : decode cX4_layPages 15 = .ok (.aload_n 1, 1) := by decide +kernel
theorem dX4_layPages_16 : decode cX4_layPages 16 = .ok (.iload 4, 2) := by decide +kernel
theorem dX4_layPages_18 : decode cX4_layPages 18 = .ok (.invokevirtual 59, 3) := by decide +kernel
theorem dX4_layPages_21 : decode cX4_layPages 21 = .ok (.ifCond .eq 25, 3) := by decide +kernel
theorem dX4_layPages_24 : decode cX4_layPages 24 = .ok (.aload_n 0, 1) := by decide +kernel
theorem dX4_layPages_25 : decode cX4_layPages 25 = .ok (.getfield 15, 3) := by decide +kernel
theorem dX4_layPages_28 : decode cX4_layPages 28 = .ok (.iload_n 3, 1) := by decide +kernel
theorem dX4_layPages_29 : decode cX4_layPages 29 = .ok (.bipush 16, 2) := by decide +kernel
theorem dX4_layPages_31 : decode cX4_layPages 31 = .ok (.imul, 1) := by decide +kernel
theorem dX4_layPages_32 : decode cX4_layPages 32 = .ok (.aload_n 2, 1) := by decide +kernel
theorem dX4_layPages_33 : decode cX4_layPages 33 = .ok (.iload 4, 2) := by decide +kernel
theorem dX4_layPages_35 : decode cX4_layPages 35 = .ok (.bipush 16, 2) := by decide +kernel
theorem dX4_layPages_37 : decode cX4_layPages 37 = .ok (.imul, 1) := by decide +kernel
theorem dX4_layPages_38 : decode cX4_layPages 38 = .ok (.bipush 16, 2) := by decide +kernel
theorem dX4_layPages_40 : decode cX4_layPages 40 = .ok (.invokestatic 30, 3) := by decide +kernel
theorem dX4_layPages_43 : decode cX4_layPages 43 = .ok (.iinc 3 1, 3) := by decide +kernel
theorem dX4_layPages_46 : decode cX4_layPages 46 = .ok (.iinc 4 1, 3) := by decide +kernel
theorem dX4_layPages_49 : decode cX4_layPages 49 = .ok (.goto (-41), 3) := by decide +kernel
theorem dX4_layPages_52 : decode cX4_layPages 52 = .ok (.return_, 1) := by decide +kernel
set_option maxRecDepth 20000 in
theorem ggX5_init_X2_init : GoodIn wsX5_init wsX2_init := goodIn_r _ [30, 31, 2, 3, 32, 33, 34, 35, 72, 73, 74, 75, 76, 77, 78, 79] (by decide +kernel) (by decide +kernel)
set_option maxRecDepth 20000 in
theorem gX5_init_X2_init : GoodIn wsX5_init (wsX2_init) := ggX5_init_X2_init
set_option maxRecDepth 20000 in
theorem ggX5_init_X0_init : GoodIn wsX5_init wsX0_init := goodIn_r _ [38, 39, 2, 3, 32, 40, 80, 81, 82] (by decide +kernel) (by decide +kernel)
set_option maxRecDepth 20000 in
theorem gX5_init_X0_init : GoodIn wsX5_init (wsX0_init) := ggX5_init_X0_init
set_option maxRecDepth 20000 in
theorem ggX5_init_X1_init : GoodIn wsX5_init wsX1_init := goodIn_r _ [43, 44, 2, 3, 32, 45, 46, 47, 83, 84, 85, 86] (by decide +kernel) (by decide +kernel)
set_option maxRecDepth 20000 in
theorem gX5_init_X1_init : GoodIn wsX5_init (wsX1_init) := ggX5_init_X1_init
set_option maxRecDepth 20000 in
theorem ggX5_init_X4_init : GoodIn wsX5_init wsX4_init := goodIn_r _ [50, 51, 2, 3, 32, 52, 53, 54, 55, 56, 57, 58, 59, 60, 61, 62, 87, 88, 89, 90, 91, 92, 93, 94, 95, 96, 97, 98] (by decide +kernel) (by decide +kernel)
set_option maxRecDepth 20000 in
theorem gX5_init_X4_init : GoodIn wsX5_init (wsX4_init) := ggX5_init_X4_init
