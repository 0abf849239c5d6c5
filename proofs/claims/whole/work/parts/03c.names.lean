theorem dX5_init_0 : decode cX5_init 0 = .ok (.aload_n 0, 1) := by decide +kernel
theorem dX5_init_1 : decode cX5_init 1 = .ok (.invokespecial 3, 3) := by decide +kernel
theorem dX5_init_4 : decode cX5_init 4 = .ok (.aload_n 0, 1) := by decide +kernel
theorem dX5_init_5 : decode cX5_init 5 = .ok (.iconst 2, 1) := by decide +kernel
theorem dX5_init_6 : decode cX5_init 6 = .ok (.iload_n 1, 1) := by decide +kernel
theorem dX5_init_7 : decode cX5_init 7 = .ok (.bipush 64, 2) := by decide +kernel
theorem dX5_init_9 : decode cX5_init 9 = .ok (.invokestatic 9, 3) := by decide +kernel
theorem dX5_init_12 : decode cX5_init 12 = .ok (.invokestatic 15, 3) := by decide +kernel
theorem dX5_init_15 : decode cX5_init 15 = .ok (.putfield 18, 3) := by decide +kernel
theorem dX5_init_18 : decode cX5_init 18 = .ok (.aload_n 0, 1) := by decide +kernel
theorem dX5_init_19 : decode cX5_init 19 = .ok (.new 22, 3) := by decide +kernel
theorem dX5_init_22 : decode cX5_init 22 = .ok (.dup, 1) := by decide +kernel
theorem dX5_init_23 : decode cX5_init 23 = .ok (.invokespecial 24, 3) := by decide +kernel
theorem dX5_init_26 : decode cX5_init 26 = .ok (.putfield 25, 3) := by decide +kernel
theorem dX5_init_29 : decode cX5_init 29 = .ok (.aload_n 0, 1) := by decide +kernel
theorem dX5_init_30 : decode cX5_init 30 = .ok (.new 29, 3) := by decide +kernel
theorem dX5_init_33 : decode cX5_init 33 = .ok (.dup, 1) := by decide +kernel
theorem dX5_init_34 : decode cX5_init 34 = .ok (.invokespecial 31, 3) := by decide +kernel
theorem dX5_init_37 : decode cX5_init 37 = .ok (.putfield 32, 3) := by decide +kernel
theorem dX5_init_40 : decode cX5_init 40 = .ok (.aload_n 0, 1) := by decide +kernel
theorem dX5_init_41 : decode cX5_init 41 = .ok (.new 36, 3) := by decide +kernel
theorem dX5_init_44 : decode cX5_init 44 = .ok (.dup, 1) := by decide +kernel
theorem dX5_init_45 : decode cX5_init 45 = .ok (.invokespecial 38, 3) := by decide +kernel
theorem dX5_init_48 : decode cX5_init 48 = .ok (.putfield 39, 3) := by decide +kernel
theorem dX5_init_51 : decode cX5_init 51 = .ok (.aload_n 0, 1) := by decide +kernel
theorem dX5_init_52 : decode cX5_init 52 = .ok (.new 43, 3) := by decide +kernel
theorem dX5_init_55 : decode cX5_init 55 = .ok (.dup, 1) := by decide +kernel
theorem dX5_init_56 : decode cX5_init 56 = .ok (.invokespecial 45, 3) := by decide +kernel
theorem dX5_init_59 : decode cX5_init 59 = .ok (.putfield 46, 3) := by decide +kernel
theorem dX5_init_62 : decode cX5_init 62 = .ok (.return_, 1) := by decide +kernel
set_option maxRecDepth 20000 in
theorem ggX5_poke_X5_isPlace : GoodIn wsX5_poke wsX5_isPlace := goodIn_r _ [7] (by decide +kernel) (by decide +kernel)
set_option maxRecDepth 20000 in
theorem gX5_poke_X5_isPlace : GoodIn wsX5_poke (va_wsS RX5 54 yX5_isPlace wsX5_isPlace) := goodIn_app (goodIn_of _ (by decide +kernel)) ggX5_poke_X5_isPlace
theorem dX5_poke_0 : decode cX5_poke 0 = .ok (.aload_n 0, 1) := by decide +kernel
theorem dX5_poke_1 : decode cX5_poke 1 = .ok (.getfield 50, 3) := by decide +kernel
theorem dX5_poke_4 : decode cX5_poke 4 = .ok (.ifCond .ne 10, 3) := by decide +kernel
theorem dX5_poke_7 : decode cX5_poke 7 = .ok (.iload_n 1, 1) := by decide +kernel
theorem dX5_poke_8 : decode cX5_poke 8 = .ok (.invokestatic 54, 3) := by decide +kernel
theorem dX5_poke_11 : decode cX5_poke 11 = .ok (.ifCond .ne 5, 3) := by decide +kernel
theorem dX5_poke_14 : decode cX5_poke 14 = .ok (.iconst 0, 1) := by decide +kernel
theorem dX5_poke_15 : decode cX5_poke 15 = .ok (.ireturn, 1) := by decide +kernel
theorem dX5_poke_16 : decode cX5_poke 16 = .ok (.aload_n 0, 1) := by decide +kernel
theorem dX5_poke_17 : decode cX5_poke 17 = .ok (.getfield 25, 3) := by decide +kernel
theorem dX5_poke_20 : decode cX5_poke 20 = .ok (.getfield 58, 3) := by decide +kernel
theorem dX5_poke_23 : decode cX5_poke 23 = .ok (.iload_n 1, 1) := by decide +kernel
theorem dX5_poke_24 : decode cX5_poke 24 = .ok (.iload_n 2, 1) := by decide +kernel
theorem dX5_poke_25 : decode cX5_poke 25 = .ok (.iastore, 1) := by decide +kernel
theorem dX5_poke_26 : decode cX5_poke 26 = .ok (.iconst 1, 1) := by decide +kernel
theorem dX5_poke_27 : decode cX5_poke 27 = .ok (.ireturn, 1) := by decide +kernel
set_option maxRecDepth 20000 in
theorem ggX5_start_X2_reset : GoodIn wsX5_start wsX2_reset := goodIn_r _ [14, 15, 16, 17, 18, 19, 20, 21, 22, 23, 24, 87, 88, 89, 90, 91, 92, 93, 94] (by decide +kernel) (by decide +kernel)
set_option maxRecDepth 20000 in
theorem gX5_start_X2_reset : GoodIn wsX5_start (wsV RX5 62 RX2 yX2_reset wsX2_reset) := goodIn_app (goodIn_of _ (by decide +kernel)) ggX5_start_X2_reset
set_option maxRecDepth 20000 in
theorem ggX5_start_X0_clear : GoodIn wsX5_start wsX0_clear := goodIn_r _ [29, 30, 31, 95, 96, 97] (by decide +kernel) (by decide +kernel)
set_option maxRecDepth 20000 in
theorem gX5_start_X0_clear : GoodIn wsX5_start (wsV RX5 65 RX0 yX0_clear wsX0_clear) := goodIn_app (goodIn_of _ (by decide +kernel)) ggX5_start_X0_clear
set_option maxRecDepth 20000 in
theorem ggX5_start_X4_begin : GoodIn wsX5_start wsX4_begin := goodIn_r _ [36, 37, 38, 39, 40, 41, 42, 43, 44, 45, 46, 47, 35, 48, 49, 50, 51, 52, 53, 54, 55, 56, 57, 58, 59, 60, 61, 62, 63, 64, 65, 66, 67, 68, 69, 70, 71, 72, 73, 87, 88, 89, 90, 91, 92, 93, 94, 98, 99, 100, 101, 102, 103, 104, 105, 106, 107, 108, 109] (by decide +kernel) (by decide +kernel)
set_option maxRecDepth 20000 in
theorem gX5_start_X4_begin : GoodIn wsX5_start (wsV RX5 71 RX4 yX4_begin wsX4_begin) := goodIn_app (goodIn_of _ (by decide +kernel)) ggX5_start_X4_begin
theorem dX5_start_0 : decode cX5_start 0 = .ok (.aload_n 0, 1) := by decide +kernel
theorem dX5_start_1 : decode cX5_start 1 = .ok (.getfield 25, 3) := by decide +kernel
theorem dX5_start_4 : decode cX5_start 4 = .ok (.invokevirtual 62, 3) := by decide +kernel
theorem dX5_start_7 : decode cX5_start 7 = .ok (.aload_n 0, 1) := by decide +kernel
theorem dX5_start_8 : decode cX5_start 8 = .ok (.getfield 32, 3) := by decide +kernel
theorem dX5_start_11 : decode cX5_start 11 = .ok (.invokevirtual 65, 3) := by decide +kernel
theorem dX5_start_14 : decode cX5_start 14 = .ok (.aload_n 0, 1) := by decide +kernel
theorem dX5_start_15 : decode cX5_start 15 = .ok (.getfield 39, 3) := by decide +kernel
theorem dX5_start_18 : decode cX5_start 18 = .ok (.iconst 0, 1) := by decide +kernel
theorem dX5_start_19 : decode cX5_start 19 = .ok (.putfield 68, 3) := by decide +kernel
theorem dX5_start_22 : decode cX5_start 22 = .ok (.aload_n 0, 1) := by decide +kernel
theorem dX5_start_23 : decode cX5_start 23 = .ok (.getfield 46, 3) := by decide +kernel
theorem dX5_start_26 : decode cX5_start 26 = .ok (.aload_n 0, 1) := by decide +kernel
theorem dX5_start_27 : decode cX5_start 27 = .ok (.getfield 25, 3) := by decide +kernel
theorem dX5_start_30 : decode cX5_start 30 = .ok (.invokevirtual 71, 3) := by decide +kernel
theorem dX5_start_33 : decode cX5_start 33 = .ok (.aload_n 0, 1) := by decide +kernel
theorem dX5_start_34 : decode cX5_start 34 = .ok (.iconst 1, 1) := by decide +kernel
theorem dX5_start_35 : decode cX5_start 35 = .ok (.putfield 50, 3) := by decide +kernel
theorem dX5_start_38 : decode cX5_start 38 = .ok (.aload_n 0, 1) := by decide +kernel
theorem dX5_start_39 : decode cX5_start 39 = .ok (.iconst 0, 1) := by decide +kernel
theorem dX5_start_40 : decode cX5_start 40 = .ok (.putfield 75, 3) := by decide +kernel
theorem dX5_start_43 : decode cX5_start 43 = .ok (.aload_n 0, 1) := by decide +kernel
theorem dX5_start_44 : decode cX5_start 44 = .ok (.iconst 0, 1) := by decide +kernel
theorem dX5_start_45 : decode cX5_start 45 = .ok (.putfield 78, 3) := by decide +kernel
theorem dX5_start_48 : decode cX5_start 48 = .ok (.aload_n 0, 1) := by decide +kernel
theorem dX5_start_49 : decode cX5_start 49 = .ok (.iconst 0, 1) := by decide +kernel
theorem dX5_start_50 : decode cX5_start 50 = .ok (.putfield 81, 3) := by decide +kernel
theorem dX5_start_53 : decode cX5_start 53 = .ok (.return_, 1) := by decide +kernel
theorem dX5_stop_0 : decode cX5_stop 0 = .ok (.aload_n 0, 1) := by decide +kernel
theorem dX5_stop_1 : decode cX5_stop 1 = .ok (.iconst 0, 1) := by decide +kernel
theorem dX5_stop_2 : decode cX5_stop 2 = .ok (.putfield 50, 3) := by decide +kernel
theorem dX5_stop_5 : decode cX5_stop 5 = .ok (.return_, 1) := by decide +kernel
set_option maxRecDepth 20000 in
theorem ggX5_give_X0_add : GoodIn wsX5_give wsX0_add := goodIn_r _ [8, 9, 10, 11, 21, 22, 23] (by decide +kernel) (by decide +kernel)
set_option maxRecDepth 20000 in
theorem gX5_give_X0_add : GoodIn wsX5_give (wsV RX5 85 RX0 yX0_add wsX0_add) := goodIn_app (goodIn_of _ (by decide +kernel)) ggX5_give_X0_add
theorem dX5_give_0 : decode cX5_give 0 = .ok (.aload_n 0, 1) := by decide +kernel
theorem dX5_give_1 : decode cX5_give 1 = .ok (.getfield 50, 3) := by decide +kernel
theorem dX5_give_4 : decode cX5_give 4 = .ok (.ifCond .eq 15, 3) := by decide +kernel
theorem dX5_give_7 : decode cX5_give 7 = .ok (.aload_n 0, 1) := by decide +kernel
theorem dX5_give_8 : decode cX5_give 8 = .ok (.getfield 32, 3) := by decide +kernel
theorem dX5_give_11 : decode cX5_give 11 = .ok (.getfield 84, 3) := by decide +kernel
theorem dX5_give_14 : decode cX5_give 14 = .ok (.bipush 100, 2) := by decide +kernel
theorem dX5_give_16 : decode cX5_give 16 = .ok (.if_icmp .lt 5, 3) := by decide +kernel
theorem dX5_give_19 : decode cX5_give 19 = .ok (.iconst (-1), 1) := by decide +kernel
theorem dX5_give_20 : decode cX5_give 20 = .ok (.ireturn, 1) := by decide +kernel
theorem dX5_give_21 : decode cX5_give 21 = .ok (.aload_n 0, 1) := by decide +kernel
theorem dX5_give_22 : decode cX5_give 22 = .ok (.getfield 32, 3) := by decide +kernel
theorem dX5_give_25 : decode cX5_give 25 = .ok (.iload_n 1, 1) := by decide +kernel
theorem dX5_give_26 : decode cX5_give 26 = .ok (.invokevirtual 85, 3) := by decide +kernel
theorem dX5_give_29 : decode cX5_give 29 = .ok (.aload_n 0, 1) := by decide +kernel
theorem dX5_give_30 : decode cX5_give 30 = .ok (.getfield 32, 3) := by decide +kernel
theorem dX5_give_33 : decode cX5_give 33 = .ok (.getfield 84, 3) := by decide +kernel
theorem dX5_give_36 : decode cX5_give 36 = .ok (.ireturn, 1) := by decide +kernel
theorem dX5_ring_0 : decode cX5_ring 0 = .ok (.aload_n 0, 1) := by decide +kernel
theorem dX5_ring_1 : decode cX5_ring 1 = .ok (.getfield 50, 3) := by decide +kernel
theorem dX5_ring_4 : decode cX5_ring 4 = .ok (.ifCond .ne 5, 3) := by decide +kernel
theorem dX5_ring_7 : decode cX5_ring 7 = .ok (.iconst 0, 1) := by decide +kernel
theorem dX5_ring_8 : decode cX5_ring 8 = .ok (.ireturn, 1) := by decide +kernel
theorem dX5_ring_9 : decode cX5_ring 9 = .ok (.aload_n 0, 1) := by decide +kernel
theorem dX5_ring_10 : decode cX5_ring 10 = .ok (.iconst 1, 1) := by decide +kernel
theorem dX5_ring_11 : decode cX5_ring 11 = .ok (.putfield 75, 3) := by decide +kernel
theorem dX5_ring_14 : decode cX5_ring 14 = .ok (.iconst 1, 1) := by decide +kernel
theorem dX5_ring_15 : decode cX5_ring 15 = .ok (.ireturn, 1) := by decide +kernel
set_option maxRecDepth 20000 in
theorem ggX5_step_X5_tryStep : GoodIn wsX5_step wsX5_tryStep := goodIn_r _ [10, 11, 12, 13, 14, 15, 9, 16, 17, 18, 19, 20, 21, 22, 23, 24, 25, 26, 27, 28, 29, 30, 31, 32, 33, 34, 35, 36, 37, 38, 39, 40, 41, 42, 43, 44, 45, 46, 47, 48, 49, 50, 51, 52, 53, 54, 55, 56, 57, 58, 59, 60, 61, 62, 63, 64, 65, 66, 67, 68, 69, 70, 71, 72, 73, 74, 75, 76, 77, 78, 79, 80, 81, 82, 83, 84, 85, 86, 87, 88, 89, 90, 91, 92, 93, 94, 95, 96, 97, 98, 99, 100, 101, 102, 103, 104, 105, 106, 107, 108, 109, 110, 111, 112, 113, 114, 115, 116, 117, 118, 119, 120, 121, 122, 123, 124, 125, 126, 127, 128, 129, 130, 131, 132, 133, 134, 135, 136, 137, 138, 139, 140, 141, 142, 143, 144, 145, 146, 147, 148, 149, 150, 151, 152, 153, 154, 155, 156, 157, 158, 159, 160, 161, 162, 163, 164, 165, 166, 167, 168, 169, 170, 171, 172, 173, 174, 175, 176, 177, 178, 179, 180, 181, 182, 183, 184, 185, 186, 187, 188, 189, 190, 191, 192, 193, 194, 195, 196, 197, 198, 199, 200, 201, 202, 203, 204, 205, 206, 207, 208, 209, 210, 211, 212, 213, 214, 215] (by decide +kernel) (by decide +kernel)
set_option maxRecDepth 20000 in
theorem gX5_step_X5_tryStep : GoodIn wsX5_step (wsV RX5 89 RX5 yX5_tryStep wsX5_tryStep) := goodIn_app (goodIn_of _ (by decide +kernel)) ggX5_step_X5_tryStep
theorem dX5_step_0 : decode cX5_step 0 = .ok (.aload_n 0, 1) := by decide +kernel
theorem dX5_step_1 : decode cX5_step 1 = .ok (.getfield 50, 3) := by decide +kernel
theorem dX5_step_4 : decode cX5_step 4 = .ok (.ifCond .ne 5, 3) := by decide +kernel
theorem dX5_step_7 : decode cX5_step 7 = .ok (.iconst (-1), 1) := by decide +kernel
theorem dX5_step_8 : decode cX5_step 8 = .ok (.ireturn, 1) := by decide +kernel
theorem dX5_step_9 : decode cX5_step 9 = .ok (.iload_n 1, 1) := by decide +kernel
theorem dX5_step_10 : decode cX5_step 10 = .ok (.sipush 10000, 3) := by decide +kernel
theorem dX5_step_13 : decode cX5_step 13 = .ok (.invokestatic 9, 3) := by decide +kernel
theorem dX5_step_16 : decode cX5_step 16 = .ok (.istore_n 2, 1) := by decide +kernel
theorem dX5_step_17 : decode cX5_step 17 = .ok (.iconst 0, 1) := by decide +kernel
theorem dX5_step_18 : decode cX5_step 18 = .ok (.istore_n 3, 1) := by decide +kernel
theorem dX5_step_19 : decode cX5_step 19 = .ok (.iload_n 3, 1) := by decide +kernel
theorem dX5_step_20 : decode cX5_step 20 = .ok (.iload_n 2, 1) := by decide +kernel
theorem dX5_step_21 : decode cX5_step 21 = .ok (.if_icmp .ge 16, 3) := by decide +kernel
theorem dX5_step_24 : decode cX5_step 24 = .ok (.aload_n 0, 1) := by decide +kernel
theorem dX5_step_25 : decode cX5_step 25 = .ok (.invokevirtual 89, 3) := by decide +kernel
theorem dX5_step_28 : decode cX5_step 28 = .ok (.ifCond .eq 9, 3) := by decide +kernel
theorem dX5_step_31 : decode cX5_step 31 = .ok (.iinc 3 1, 3) := by decide +kernel
theorem dX5_step_34 : decode cX5_step 34 = .ok (.goto (-15), 3) := by decide +kernel
theorem dX5_step_37 : decode cX5_step 37 = .ok (.iload_n 3, 1) := by decide +kernel
theorem dX5_step_38 : decode cX5_step 38 = .ok (.ireturn, 1) := by decide +kernel
set_option maxRecDepth 20000 in
theorem ggX5_go_X5_isOnRecord : GoodIn wsX5_go wsX5_isOnRecord := goodIn_r _ [9, 10, 11, 139, 140, 141, 142, 143, 144, 145, 146, 147] (by decide +kernel) (by decide +kernel)
set_option maxRecDepth 20000 in
theorem gX5_go_X5_isOnRecord : GoodIn wsX5_go (wsV RX5 93 RX5 yX5_isOnRecord wsX5_isOnRecord) := goodIn_app (goodIn_of _ (by decide +kernel)) ggX5_go_X5_isOnRecord
set_option maxRecDepth 20000 in
theorem ggX5_go_X4_restore : GoodIn wsX5_go wsX4_restore := goodIn_r _ [16, 17, 18, 19, 20, 21, 22, 23, 24, 25, 26, 15, 27, 28, 29, 30, 31, 32, 33, 34, 35, 36, 37, 38, 39, 40, 41, 42, 43, 44, 45, 46, 47, 48, 49, 50, 51, 148, 149, 150, 151, 152, 153, 154, 155, 156, 157, 158, 159, 160, 161, 162, 163, 164, 165, 166, 167] (by decide +kernel) (by decide +kernel)
set_option maxRecDepth 20000 in
theorem gX5_go_X4_restore : GoodIn wsX5_go (wsV RX5 96 RX4 yX4_restore wsX4_restore) := goodIn_app (goodIn_of _ (by decide +kernel)) ggX5_go_X4_restore
set_option maxRecDepth 20000 in
theorem ggX5_go_X5_stepByLog : GoodIn wsX5_go wsX5_stepByLog := goodIn_r _ [55, 56, 4, 57, 58, 59, 60, 61, 62, 63, 64, 65, 66, 67, 68, 69, 70, 8, 71, 3, 11, 1, 2, 72, 73, 74, 75, 76, 77, 78, 79, 80, 81, 82, 83, 84, 85, 86, 87, 88, 89, 90, 91, 92, 93, 94, 95, 96, 97, 98, 99, 100, 101, 102, 103, 104, 105, 106, 107, 108, 109, 110, 111, 112, 113, 114, 115, 116, 117, 118, 119, 120, 121, 122, 123, 124, 125, 126, 127, 128, 129, 130, 131, 15, 132, 23, 133, 134, 28, 18, 29, 19, 20, 21, 22, 135, 136, 137, 33, 138, 41, 40, 42, 44, 43, 46, 45, 48, 47, 50, 49, 51, 35, 30, 31, 32, 34, 139, 140, 141, 142, 143, 144, 145, 146, 147, 168, 169, 170, 171, 153, 154, 155, 156, 157, 158, 159, 160, 148, 149, 150, 151, 152, 161, 162, 163, 164, 165, 166, 167] (by decide +kernel) (by decide +kernel)
set_option maxRecDepth 20000 in
theorem gX5_go_X5_stepByLog : GoodIn wsX5_go (wsV RX5 100 RX5 yX5_stepByLog wsX5_stepByLog) := goodIn_app (goodIn_of _ (by decide +kernel)) ggX5_go_X5_stepByLog
theorem dX5_go_0 : decode cX5_go 0 = .ok (.aload_n 0, 1) := by decide +kernel
theorem dX5_go_1 : decode cX5_go 1 = .ok (.iload_n 1, 1) := by decide +kernel
theorem dX5_go_2 : decode cX5_go 2 = .ok (.invokevirtual 93, 3) := by decide +kernel
theorem dX5_go_5 : decode cX5_go 5 = .ok (.ifCond .ne 5, 3) := by decide +kernel
theorem dX5_go_8 : decode cX5_go 8 = .ok (.iconst 0, 1) := by decide +kernel
theorem dX5_go_9 : decode cX5_go 9 = .ok (.ireturn, 1) := by decide +kernel
theorem dX5_go_10 : decode cX5_go 10 = .ok (.iload_n 1, 1) := by decide +kernel
theorem dX5_go_11 : decode cX5_go 11 = .ok (.aload_n 0, 1) := by decide +kernel
theorem dX5_go_12 : decode cX5_go 12 = .ok (.getfield 18, 3) := by decide +kernel
theorem dX5_go_15 : decode cX5_go 15 = .ok (.idiv, 1) := by decide +kernel
theorem dX5_go_16 : decode cX5_go 16 = .ok (.istore_n 2, 1) := by decide +kernel
theorem dX5_go_17 : decode cX5_go 17 = .ok (.aload_n 0, 1) := by decide +kernel
theorem dX5_go_18 : decode cX5_go 18 = .ok (.getfield 46, 3) := by decide +kernel
theorem dX5_go_21 : decode cX5_go 21 = .ok (.iload_n 2, 1) := by decide +kernel
theorem dX5_go_22 : decode cX5_go 22 = .ok (.aload_n 0, 1) := by decide +kernel
theorem dX5_go_23 : decode cX5_go 23 = .ok (.getfield 25, 3) := by decide +kernel
theorem dX5_go_26 : decode cX5_go 26 = .ok (.invokevirtual 96, 3) := by decide +kernel
theorem dX5_go_29 : decode cX5_go 29 = .ok (.aload_n 0, 1) := by decide +kernel
theorem dX5_go_30 : decode cX5_go 30 = .ok (.iload_n 2, 1) := by decide +kernel
theorem dX5_go_31 : decode cX5_go 31 = .ok (.aload_n 0, 1) := by decide +kernel
theorem dX5_go_32 : decode cX5_go 32 = .ok (.getfield 18, 3) := by decide +kernel
theorem dX5_go_35 : decode cX5_go 35 = .ok (.imul, 1) := by decide +kernel
theorem dX5_go_36 : decode cX5_go 36 = .ok (.putfield 78, 3) := by decide +kernel
theorem dX5_go_39 : decode cX5_go 39 = .ok (.iload_n 1, 1) := by decide +kernel
theorem dX5_go_40 : decode cX5_go 40 = .ok (.aload_n 0, 1) := by decide +kernel
theorem dX5_go_41 : decode cX5_go 41 = .ok (.getfield 78, 3) := by decide +kernel
theorem dX5_go_44 : decode cX5_go 44 = .ok (.isub, 1) := by decide +kernel
theorem dX5_go_45 : decode cX5_go 45 = .ok (.istore_n 3, 1) := by decide +kernel
theorem dX5_go_46 : decode cX5_go 46 = .ok (.iload_n 3, 1) := by decide +kernel
theorem dX5_go_47 : decode cX5_go 47 = .ok (.ifCond .le 13, 3) := by decide +kernel
theorem dX5_go_50 : decode cX5_go 50 = .ok (.aload_n 0, 1) := by decide +kernel
theorem dX5_go_51 : decode cX5_go 51 = .ok (.invokevirtual 100, 3) := by decide +kernel
theorem dX5_go_54 : decode cX5_go 54 = .ok (.iinc 3 (-1), 3) := by decide +kernel
theorem dX5_go_57 : decode cX5_go 57 = .ok (.goto (-11), 3) := by decide +kernel
theorem dX5_go_60 : decode cX5_go 60 = .ok (.iconst 1, 1) := by decide +kernel
theorem dX5_go_61 : decode cX5_go 61 = .ok (.ireturn, 1) := by decide +kernel
set_option maxRecDepth 20000 in
theorem ggX5_far_X5_isOnRecord : GoodIn wsX5_far wsX5_isOnRecord := goodIn_r _ [6, 7, 8, 9, 10, 11, 12, 13, 14, 15, 16, 17] (by decide +kernel) (by decide +kernel)
set_option maxRecDepth 20000 in
theorem gX5_far_X5_isOnRecord : GoodIn wsX5_far (wsV RX5 93 RX5 yX5_isOnRecord wsX5_isOnRecord) := goodIn_app (goodIn_of _ (by decide +kernel)) ggX5_far_X5_isOnRecord
theorem dX5_far_0 : decode cX5_far 0 = .ok (.aload_n 0, 1) := by decide +kernel
theorem dX5_far_1 : decode cX5_far 1 = .ok (.iload_n 1, 1) := by decide +kernel
theorem dX5_far_2 : decode cX5_far 2 = .ok (.invokevirtual 93, 3) := by decide +kernel
theorem dX5_far_5 : decode cX5_far 5 = .ok (.ifCond .eq 12, 3) := by decide +kernel
theorem dX5_far_8 : decode cX5_far 8 = .ok (.iload_n 1, 1) := by decide +kernel
theorem dX5_far_9 : decode cX5_far 9 = .ok (.aload_n 0, 1) := by decide +kernel
theorem dX5_far_10 : decode cX5_far 10 = .ok (.getfield 18, 3) := by decide +kernel
theorem dX5_far_13 : decode cX5_far 13 = .ok (.irem, 1) := by decide +kernel
theorem dX5_far_14 : decode cX5_far 14 = .ok (.goto 4, 3) := by decide +kernel
theorem dX5_far_17 : decode cX5_far 17 = .ok (.iconst (-1), 1) := by decide +kernel
theorem dX5_far_18 : decode cX5_far 18 = .ok (.ireturn, 1) := by decide +kernel
set_option maxRecDepth 20000 in
theorem ggX5_cut_X1_countBefore : GoodIn wsX5_cut wsX1_countBefore := goodIn_r _ [12, 13, 14, 46, 47, 48, 49] (by decide +kernel) (by decide +kernel)
set_option maxRecDepth 20000 in
theorem gX5_cut_X1_countBefore : GoodIn wsX5_cut (wsV RX5 103 RX1 yX1_countBefore wsX1_countBefore) := goodIn_app (goodIn_of _ (by decide +kernel)) ggX5_cut_X1_countBefore
set_option maxRecDepth 20000 in
theorem ggX5_cut_X4_keepFirst : GoodIn wsX5_cut wsX4_keepFirst := goodIn_r _ [19, 20, 21, 22, 23, 24, 25, 26, 27, 28, 29, 30, 31, 32, 33, 34, 35, 36, 50, 51, 52, 53, 54, 55, 56, 57, 58, 59, 60, 61] (by decide +kernel) (by decide +kernel)
set_option maxRecDepth 20000 in
theorem gX5_cut_X4_keepFirst : GoodIn wsX5_cut (wsV RX5 107 RX4 yX4_keepFirst wsX4_keepFirst) := goodIn_app (goodIn_of _ (by decide +kernel)) ggX5_cut_X4_keepFirst
theorem dX5_cut_0 : decode cX5_cut 0 = .ok (.aload_n 0, 1) := by decide +kernel
theorem dX5_cut_1 : decode cX5_cut 1 = .ok (.getfield 50, 3) := by decide +kernel
theorem dX5_cut_4 : decode cX5_cut 4 = .ok (.ifCond .ne 5, 3) := by decide +kernel
theorem dX5_cut_7 : decode cX5_cut 7 = .ok (.iconst (-1), 1) := by decide +kernel
theorem dX5_cut_8 : decode cX5_cut 8 = .ok (.ireturn, 1) := by decide +kernel
theorem dX5_cut_9 : decode cX5_cut 9 = .ok (.aload_n 0, 1) := by decide +kernel
theorem dX5_cut_10 : decode cX5_cut 10 = .ok (.aload_n 0, 1) := by decide +kernel
theorem dX5_cut_11 : decode cX5_cut 11 = .ok (.getfield 78, 3) := by decide +kernel
theorem dX5_cut_14 : decode cX5_cut 14 = .ok (.putfield 81, 3) := by decide +kernel
theorem dX5_cut_17 : decode cX5_cut 17 = .ok (.aload_n 0, 1) := by decide +kernel
theorem dX5_cut_18 : decode cX5_cut 18 = .ok (.getfield 39, 3) := by decide +kernel
theorem dX5_cut_21 : decode cX5_cut 21 = .ok (.aload_n 0, 1) := by decide +kernel
theorem dX5_cut_22 : decode cX5_cut 22 = .ok (.getfield 39, 3) := by decide +kernel
theorem dX5_cut_25 : decode cX5_cut 25 = .ok (.aload_n 0, 1) := by decide +kernel
theorem dX5_cut_26 : decode cX5_cut 26 = .ok (.getfield 78, 3) := by decide +kernel
theorem dX5_cut_29 : decode cX5_cut 29 = .ok (.invokevirtual 103, 3) := by decide +kernel
theorem dX5_cut_32 : decode cX5_cut 32 = .ok (.putfield 68, 3) := by decide +kernel
theorem dX5_cut_35 : decode cX5_cut 35 = .ok (.aload_n 0, 1) := by decide +kernel
theorem dX5_cut_36 : decode cX5_cut 36 = .ok (.getfield 46, 3) := by decide +kernel
theorem dX5_cut_39 : decode cX5_cut 39 = .ok (.aload_n 0, 1) := by decide +kernel
theorem dX5_cut_40 : decode cX5_cut 40 = .ok (.getfield 78, 3) := by decide +kernel
theorem dX5_cut_43 : decode cX5_cut 43 = .ok (.aload_n 0, 1) := by decide +kernel
theorem dX5_cut_44 : decode cX5_cut 44 = .ok (.getfield 18, 3) := by decide +kernel
theorem dX5_cut_47 : decode cX5_cut 47 = .ok (.idiv, 1) := by decide +kernel
theorem dX5_cut_48 : decode cX5_cut 48 = .ok (.iconst 1, 1) := by decide +kernel
theorem dX5_cut_49 : decode cX5_cut 49 = .ok (.iadd, 1) := by decide +kernel
theorem dX5_cut_50 : decode cX5_cut 50 = .ok (.invokevirtual 107, 3) := by decide +kernel
theorem dX5_cut_53 : decode cX5_cut 53 = .ok (.aload_n 0, 1) := by decide +kernel
theorem dX5_cut_54 : decode cX5_cut 54 = .ok (.getfield 39, 3) := by decide +kernel
theorem dX5_cut_57 : decode cX5_cut 57 = .ok (.getfield 68, 3) := by decide +kernel
theorem dX5_cut_60 : decode cX5_cut 60 = .ok (.ireturn, 1) := by decide +kernel
theorem dX5_record_0 : decode cX5_record 0 = .ok (.aload_n 0, 1) := by decide +kernel
theorem dX5_record_1 : decode cX5_record 1 = .ok (.getfield 50, 3) := by decide +kernel
theorem dX5_record_4 : decode cX5_record 4 = .ok (.ifCond .ne 5, 3) := by decide +kernel
theorem dX5_record_7 : decode cX5_record 7 = .ok (.iconst (-1), 1) := by decide +kernel
theorem dX5_record_8 : decode cX5_record 8 = .ok (.ireturn, 1) := by decide +kernel
theorem dX5_record_9 : decode cX5_record 9 = .ok (.iload_n 1, 1) := by decide +kernel
theorem dX5_record_10 : decode cX5_record 10 = .ok (.tableswitch 97 0 6 #[42, 47, 52, 60, 68, 76, 84], 42) := by decide +kernel
theorem dX5_record_52 : decode cX5_record 52 = .ok (.aload_n 0, 1) := by decide +kernel
theorem dX5_record_53 : decode cX5_record 53 = .ok (.getfield 78, 3) := by decide +kernel
theorem dX5_record_56 : decode cX5_record 56 = .ok (.ireturn, 1) := by decide +kernel
theorem dX5_record_57 : decode cX5_record 57 = .ok (.aload_n 0, 1) := by decide +kernel
theorem dX5_record_58 : decode cX5_record 58 = .ok (.getfield 81, 3) := by decide +kernel
theorem dX5_record_61 : decode cX5_record 61 = .ok (.ireturn, 1) := by decide +kernel
theorem dX5_record_62 : decode cX5_record 62 = .ok (.aload_n 0, 1) := by decide +kernel
theorem dX5_record_63 : decode cX5_record 63 = .ok (.getfield 39, 3) := by decide +kernel
theorem dX5_record_66 : decode cX5_record 66 = .ok (.getfield 68, 3) := by decide +kernel
theorem dX5_record_69 : decode cX5_record 69 = .ok (.ireturn, 1) := by decide +kernel
theorem dX5_record_70 : decode cX5_record 70 = .ok (.aload_n 0, 1) := by decide +kernel
theorem dX5_record_71 : decode cX5_record 71 = .ok (.getfield 46, 3) := by decide +kernel
theorem dX5_record_74 : decode cX5_record 74 = .ok (.getfield 110, 3) := by decide +kernel
theorem dX5_record_77 : decode cX5_record 77 = .ok (.ireturn, 1) := by decide +kernel
theorem dX5_record_78 : decode cX5_record 78 = .ok (.aload_n 0, 1) := by decide +kernel
theorem dX5_record_79 : decode cX5_record 79 = .ok (.getfield 46, 3) := by decide +kernel
theorem dX5_record_82 : decode cX5_record 82 = .ok (.getfield 111, 3) := by decide +kernel
theorem dX5_record_85 : decode cX5_record 85 = .ok (.ireturn, 1) := by decide +kernel
theorem dX5_record_86 : decode cX5_record 86 = .ok (.aload_n 0, 1) := by decide +kernel
theorem dX5_record_87 : decode cX5_record 87 = .ok (.getfield 32, 3) := by decide +kernel
theorem dX5_record_90 : decode cX5_record 90 = .ok (.getfield 84, 3) := by decide +kernel
theorem dX5_record_93 : decode cX5_record 93 = .ok (.ireturn, 1) := by decide +kernel
theorem dX5_record_94 : decode cX5_record 94 = .ok (.aload_n 0, 1) := by decide +kernel
theorem dX5_record_95 : decode cX5_record 95 = .ok (.getfield 75, 3) := by decide +kernel
theorem dX5_record_98 : decode cX5_record 98 = .ok (.ifCond .eq 7, 3) := by decide +kernel
theorem dX5_record_101 : decode cX5_record 101 = .ok (.iconst 1, 1) := by decide +kernel
theorem dX5_record_102 : decode cX5_record 102 = .ok (.goto 4, 3) := by decide +kernel
theorem dX5_record_105 : decode cX5_record 105 = .ok (.iconst 0, 1) := by decide +kernel
theorem dX5_record_106 : decode cX5_record 106 = .ok (.ireturn, 1) := by decide +kernel
theorem dX5_record_107 : decode cX5_record 107 = .ok (.iconst (-1), 1) := by decide +kernel
theorem dX5_record_108 : decode cX5_record 108 = .ok (.ireturn, 1) := by decide +kernel
set_option maxRecDepth 20000 in
theorem ggX5_pages_X3_pageCount : GoodIn wsX5_pages wsX3_pageCount := goodIn_r _ [9, 10, 11, 12, 13, 14, 15, 16, 17, 32, 33, 34, 35, 36, 37, 38] (by decide +kernel) (by decide +kernel)
set_option maxRecDepth 20000 in
theorem gX5_pages_X3_pageCount : GoodIn wsX5_pages (wsV RX5 118 RX3 yX3_pageCount wsX3_pageCount) := goodIn_app (goodIn_of _ (by decide +kernel)) ggX5_pages_X3_pageCount
theorem dX5_pages_0 : decode cX5_pages 0 = .ok (.aload_n 0, 1) := by decide +kernel
theorem dX5_pages_1 : decode cX5_pages 1 = .ok (.getfield 50, 3) := by decide +kernel
theorem dX5_pages_4 : decode cX5_pages 4 = .ok (.ifCond .eq 18, 3) := by decide +kernel
theorem dX5_pages_7 : decode cX5_pages 7 = .ok (.iload_n 1, 1) := by decide +kernel
theorem dX5_pages_8 : decode cX5_pages 8 = .ok (.ifCond .lt 14, 3) := by decide +kernel
theorem dX5_pages_11 : decode cX5_pages 11 = .ok (.iload_n 1, 1) := by decide +kernel
theorem dX5_pages_12 : decode cX5_pages 12 = .ok (.aload_n 0, 1) := by decide +kernel
theorem dX5_pages_13 : decode cX5_pages 13 = .ok (.getfield 46, 3) := by decide +kernel
theorem dX5_pages_16 : decode cX5_pages 16 = .ok (.getfield 110, 3) := by decide +kernel
theorem dX5_pages_19 : decode cX5_pages 19 = .ok (.if_icmp .lt 5, 3) := by decide +kernel
theorem dX5_pages_22 : decode cX5_pages 22 = .ok (.iconst (-1), 1) := by decide +kernel
theorem dX5_pages_23 : decode cX5_pages 23 = .ok (.ireturn, 1) := by decide +kernel
theorem dX5_pages_24 : decode cX5_pages 24 = .ok (.aload_n 0, 1) := by decide +kernel
theorem dX5_pages_25 : decode cX5_pages 25 = .ok (.getfield 46, 3) := by decide +kernel
theorem dX5_pages_28 : decode cX5_pages 28 = .ok (.getfield 114, 3) := by decide +kernel
theorem dX5_pages_31 : decode cX5_pages 31 = .ok (.iload_n 1, 1) := by decide +kernel
theorem dX5_pages_32 : decode cX5_pages 32 = .ok (.aaload, 1) := by decide +kernel
theorem dX5_pages_33 : decode cX5_pages 33 = .ok (.invokevirtual 118, 3) := by decide +kernel
theorem dX5_pages_36 : decode cX5_pages 36 = .ok (.ireturn, 1) := by decide +kernel
theorem dX5_log_0 : decode cX5_log 0 = .ok (.aload_n 0, 1) := by decide +kernel
theorem dX5_log_1 : decode cX5_log 1 = .ok (.getfield 50, 3) := by decide +kernel
theorem dX5_log_4 : decode cX5_log 4 = .ok (.ifCond .eq 18, 3) := by decide +kernel
theorem dX5_log_7 : decode cX5_log 7 = .ok (.iload_n 1, 1) := by decide +kernel
theorem dX5_log_8 : decode cX5_log 8 = .ok (.ifCond .lt 14, 3) := by decide +kernel
theorem dX5_log_11 : decode cX5_log 11 = .ok (.iload_n 1, 1) := by decide +kernel
theorem dX5_log_12 : decode cX5_log 12 = .ok (.aload_n 0, 1) := by decide +kernel
theorem dX5_log_13 : decode cX5_log 13 = .ok (.getfield 39, 3) := by decide +kernel
theorem dX5_log_16 : decode cX5_log 16 = .ok (.getfield 68, 3) := by decide +kernel
theorem dX5_log_19 : decode cX5_log 19 = .ok (.if_icmp .lt 5, 3) := by decide +kernel
theorem dX5_log_22 : decode cX5_log 22 = .ok (.iconst (-1), 1) := by decide +kernel
theorem dX5_log_23 : decode cX5_log 23 = .ok (.ireturn, 1) := by decide +kernel
theorem dX5_log_24 : decode cX5_log 24 = .ok (.iload_n 2, 1) := by decide +kernel
theorem dX5_log_25 : decode cX5_log 25 = .ok (.tableswitch 57 0 2 #[27, 37, 47], 27) := by decide +kernel
theorem dX5_log_52 : decode cX5_log 52 = .ok (.aload_n 0, 1) := by decide +kernel
theorem dX5_log_53 : decode cX5_log 53 = .ok (.getfield 39, 3) := by decide +kernel
theorem dX5_log_56 : decode cX5_log 56 = .ok (.getfield 124, 3) := by decide +kernel
theorem dX5_log_59 : decode cX5_log 59 = .ok (.iload_n 1, 1) := by decide +kernel
theorem dX5_log_60 : decode cX5_log 60 = .ok (.iaload, 1) := by decide +kernel
theorem dX5_log_61 : decode cX5_log 61 = .ok (.ireturn, 1) := by decide +kernel
theorem dX5_log_62 : decode cX5_log 62 = .ok (.aload_n 0, 1) := by decide +kernel
theorem dX5_log_63 : decode cX5_log 63 = .ok (.getfield 39, 3) := by decide +kernel
theorem dX5_log_66 : decode cX5_log 66 = .ok (.getfield 127, 3) := by decide +kernel
theorem dX5_log_69 : decode cX5_log 69 = .ok (.iload_n 1, 1) := by decide +kernel
theorem dX5_log_70 : decode cX5_log 70 = .ok (.iaload, 1) := by decide +kernel
theorem dX5_log_71 : decode cX5_log 71 = .ok (.ireturn, 1) := by decide +kernel
theorem dX5_log_72 : decode cX5_log 72 = .ok (.aload_n 0, 1) := by decide +kernel
theorem dX5_log_73 : decode cX5_log 73 = .ok (.getfield 39, 3) := by decide +kernel
theorem dX5_log_76 : decode cX5_log 76 = .ok (.getfield 130, 3) := by decide +kernel
theorem dX5_log_79 : decode cX5_log 79 = .ok (.iload_n 1, 1) := by decide +kernel
theorem dX5_log_80 : decode cX5_log 80 = .ok (.iaload, 1) := by decide +kernel
theorem dX5_log_81 : decode cX5_log 81 = .ok (.ireturn, 1) := by decide +kernel
theorem dX5_log_82 : decode cX5_log 82 = .ok (.iconst (-1), 1) := by decide +kernel
theorem dX5_log_83 : decode cX5_log 83 = .ok (.ireturn, 1) := by decide +kernel
theorem dX5_register_0 : decode cX5_register 0 = .ok (.iload_n 1, 1) := by decide +kernel
theorem dX5_register_1 : decode cX5_register 1 = .ok (.ifCond .lt 19, 3) := by decide +kernel
theorem dX5_register_4 : decode cX5_register 4 = .ok (.iload_n 1, 1) := by decide +kernel
theorem dX5_register_5 : decode cX5_register 5 = .ok (.bipush 8, 2) := by decide +kernel
theorem dX5_register_7 : decode cX5_register 7 = .ok (.if_icmp .ge 13, 3) := by decide +kernel
theorem dX5_register_10 : decode cX5_register 10 = .ok (.aload_n 0, 1) := by decide +kernel
theorem dX5_register_11 : decode cX5_register 11 = .ok (.getfield 25, 3) := by decide +kernel
theorem dX5_register_14 : decode cX5_register 14 = .ok (.getfield 133, 3) := by decide +kernel
theorem dX5_register_17 : decode cX5_register 17 = .ok (.iload_n 1, 1) := by decide +kernel
theorem dX5_register_18 : decode cX5_register 18 = .ok (.iaload, 1) := by decide +kernel
theorem dX5_register_19 : decode cX5_register 19 = .ok (.ireturn, 1) := by decide +kernel
theorem dX5_register_20 : decode cX5_register 20 = .ok (.iload_n 1, 1) := by decide +kernel
theorem dX5_register_21 : decode cX5_register 21 = .ok (.tableswitch 59 8 10 #[27, 35, 43], 27) := by decide +kernel
theorem dX5_register_48 : decode cX5_register 48 = .ok (.aload_n 0, 1) := by decide +kernel
theorem dX5_register_49 : decode cX5_register 49 = .ok (.getfield 25, 3) := by decide +kernel
theorem dX5_register_52 : decode cX5_register 52 = .ok (.getfield 136, 3) := by decide +kernel
theorem dX5_register_55 : decode cX5_register 55 = .ok (.ireturn, 1) := by decide +kernel
theorem dX5_register_56 : decode cX5_register 56 = .ok (.aload_n 0, 1) := by decide +kernel
theorem dX5_register_57 : decode cX5_register 57 = .ok (.getfield 25, 3) := by decide +kernel
theorem dX5_register_60 : decode cX5_register 60 = .ok (.getfield 139, 3) := by decide +kernel
theorem dX5_register_63 : decode cX5_register 63 = .ok (.ireturn, 1) := by decide +kernel
theorem dX5_register_64 : decode cX5_register 64 = .ok (.aload_n 0, 1) := by decide +kernel
theorem dX5_register_65 : decode cX5_register 65 = .ok (.getfield 25, 3) := by decide +kernel
theorem dX5_register_68 : decode cX5_register 68 = .ok (.getfield 142, 3) := by decide +kernel
theorem dX5_register_71 : decode cX5_register 71 = .ok (.ifCond .eq 7, 3) := by decide +kernel
theorem dX5_register_74 : decode cX5_register 74 = .ok (.iconst 1, 1) := by decide +kernel
theorem dX5_register_75 : decode cX5_register 75 = .ok (.goto 4, 3) := by decide +kernel
theorem dX5_register_78 : decode cX5_register 78 = .ok (.iconst 0, 1) := by decide +kernel
theorem dX5_register_79 : decode cX5_register 79 = .ok (.ireturn, 1) := by decide +kernel
theorem dX5_register_80 : decode cX5_register 80 = .ok (.iconst 0, 1) := by decide +kernel
theorem dX5_register_81 : decode cX5_register 81 = .ok (.ireturn, 1) := by decide +kernel
set_option maxRecDepth 20000 in
theorem ggX5_word_X5_isPlace : GoodIn wsX5_word wsX5_isPlace := goodIn_r _ [6] (by decide +kernel) (by decide +kernel)
set_option maxRecDepth 20000 in
theorem gX5_word_X5_isPlace : GoodIn wsX5_word (va_wsS RX5 54 yX5_isPlace wsX5_isPlace) := goodIn_app (goodIn_of _ (by decide +kernel)) ggX5_word_X5_isPlace
theorem dX5_word_0 : decode cX5_word 0 = .ok (.iload_n 1, 1) := by decide +kernel
theorem dX5_word_1 : decode cX5_word 1 = .ok (.invokestatic 54, 3) := by decide +kernel
theorem dX5_word_4 : decode cX5_word 4 = .ok (.ifCond .eq 15, 3) := by decide +kernel
theorem dX5_word_7 : decode cX5_word 7 = .ok (.aload_n 0, 1) := by decide +kernel
theorem dX5_word_8 : decode cX5_word 8 = .ok (.getfield 25, 3) := by decide +kernel
theorem dX5_word_11 : decode cX5_word 11 = .ok (.getfield 58, 3) := by decide +kernel
theorem dX5_word_14 : decode cX5_word 14 = .ok (.iload_n 1, 1) := by decide +kernel
theorem dX5_word_15 : decode cX5_word 15 = .ok (.iaload, 1) := by decide +kernel
theorem dX5_word_16 : decode cX5_word 16 = .ok (.goto 4, 3) := by decide +kernel
theorem dX5_word_19 : decode cX5_word 19 = .ok (.iconst 0, 1) := by decide +kernel
theorem dX5_word_20 : decode cX5_word 20 = .ok (.ireturn, 1) := by decide +kernel
theorem dX5_outs_0 : decode cX5_outs 0 = .ok (.aload_n 0, 1) := by decide +kernel
theorem dX5_outs_1 : decode cX5_outs 1 = .ok (.getfield 25, 3) := by decide +kernel
theorem dX5_outs_4 : decode cX5_outs 4 = .ok (.getfield 145, 3) := by decide +kernel
theorem dX5_outs_7 : decode cX5_outs 7 = .ok (.ireturn, 1) := by decide +kernel
theorem dX5_out_0 : decode cX5_out 0 = .ok (.iload_n 1, 1) := by decide +kernel
theorem dX5_out_1 : decode cX5_out 1 = .ok (.ifCond .lt 20, 3) := by decide +kernel
theorem dX5_out_4 : decode cX5_out 4 = .ok (.iload_n 1, 1) := by decide +kernel
theorem dX5_out_5 : decode cX5_out 5 = .ok (.aload_n 0, 1) := by decide +kernel
theorem dX5_out_6 : decode cX5_out 6 = .ok (.getfield 25, 3) := by decide +kernel
theorem dX5_out_9 : decode cX5_out 9 = .ok (.getfield 145, 3) := by decide +kernel
theorem dX5_out_12 : decode cX5_out 12 = .ok (.if_icmp .ge 9, 3) := by decide +kernel
theorem dX5_out_15 : decode cX5_out 15 = .ok (.iload_n 1, 1) := by decide +kernel
theorem dX5_out_16 : decode cX5_out 16 = .ok (.bipush 64, 2) := by decide +kernel
theorem dX5_out_18 : decode cX5_out 18 = .ok (.if_icmp .lt 5, 3) := by decide +kernel
theorem dX5_out_21 : decode cX5_out 21 = .ok (.iconst 0, 1) := by decide +kernel
theorem dX5_out_22 : decode cX5_out 22 = .ok (.ireturn, 1) := by decide +kernel
theorem dX5_out_23 : decode cX5_out 23 = .ok (.aload_n 0, 1) := by decide +kernel
theorem dX5_out_24 : decode cX5_out 24 = .ok (.getfield 25, 3) := by decide +kernel
theorem dX5_out_27 : decode cX5_out 27 = .ok (.getfield 148, 3) := by decide +kernel
theorem dX5_out_30 : decode cX5_out 30 = .ok (.iload_n 1, 1) := by decide +kernel
theorem dX5_out_31 : decode cX5_out 31 = .ok (.iaload, 1) := by decide +kernel
theorem dX5_out_32 : decode cX5_out 32 = .ok (.ireturn, 1) := by decide +kernel
theorem dX5_isPlace_0 : decode cX5_isPlace 0 = .ok (.iload_n 0, 1) := by decide +kernel
theorem dX5_isPlace_1 : decode cX5_isPlace 1 = .ok (.ifCond .lt 14, 3) := by decide +kernel
theorem dX5_isPlace_4 : decode cX5_isPlace 4 = .ok (.iload_n 0, 1) := by decide +kernel
theorem dX5_isPlace_5 : decode cX5_isPlace 5 = .ok (.sipush 512, 3) := by decide +kernel
theorem dX5_isPlace_8 : decode cX5_isPlace 8 = .ok (.if_icmp .ge 7, 3) := by decide +kernel
theorem dX5_isPlace_11 : decode cX5_isPlace 11 = .ok (.iconst 1, 1) := by decide +kernel
theorem dX5_isPlace_12 : decode cX5_isPlace 12 = .ok (.goto 4, 3) := by decide +kernel
theorem dX5_isPlace_15 : decode cX5_isPlace 15 = .ok (.iconst 0, 1) := by decide +kernel
theorem dX5_isPlace_16 : decode cX5_isPlace 16 = .ok (.ireturn, 1) := by decide +kernel
theorem dX5_placeOf_0 : decode cX5_placeOf 0 = .ok (.iload_n 0, 1) := by decide +kernel
theorem dX5_placeOf_1 : decode cX5_placeOf 1 = .ok (.sipush 511, 3) := by decide +kernel
theorem dX5_placeOf_4 : decode cX5_placeOf 4 = .ok (.iand, 1) := by decide +kernel
theorem dX5_placeOf_5 : decode cX5_placeOf 5 = .ok (.ireturn, 1) := by decide +kernel
theorem dX5_isOnRecord_0 : decode cX5_isOnRecord 0 = .ok (.aload_n 0, 1) := by decide +kernel
theorem dX5_isOnRecord_1 : decode cX5_isOnRecord 1 = .ok (.getfield 50, 3) := by decide +kernel
theorem dX5_isOnRecord_4 : decode cX5_isOnRecord 4 = .ok (.ifCond .eq 19, 3) := by decide +kernel
theorem dX5_isOnRecord_7 : decode cX5_isOnRecord 7 = .ok (.iload_n 1, 1) := by decide +kernel
theorem dX5_isOnRecord_8 : decode cX5_isOnRecord 8 = .ok (.ifCond .lt 15, 3) := by decide +kernel
theorem dX5_isOnRecord_11 : decode cX5_isOnRecord 11 = .ok (.iload_n 1, 1) := by decide +kernel
theorem dX5_isOnRecord_12 : decode cX5_isOnRecord 12 = .ok (.aload_n 0, 1) := by decide +kernel
theorem dX5_isOnRecord_13 : decode cX5_isOnRecord 13 = .ok (.getfield 81, 3) := by decide +kernel
theorem dX5_isOnRecord_16 : decode cX5_isOnRecord 16 = .ok (.if_icmp .gt 7, 3) := by decide +kernel
theorem dX5_isOnRecord_19 : decode cX5_isOnRecord 19 = .ok (.iconst 1, 1) := by decide +kernel
theorem dX5_isOnRecord_20 : decode cX5_isOnRecord 20 = .ok (.goto 4, 3) := by decide +kernel
theorem dX5_isOnRecord_23 : decode cX5_isOnRecord 23 = .ok (.iconst 0, 1) := by decide +kernel
theorem dX5_isOnRecord_24 : decode cX5_isOnRecord 24 = .ok (.ireturn, 1) := by decide +kernel
set_option maxRecDepth 20000 in
theorem ggX5_tryStep_X5_stepByLog : GoodIn wsX5_tryStep wsX5_stepByLog := goodIn_r _ [7, 8, 1, 9, 10, 11, 12, 13, 14, 15, 16, 17, 18, 19, 20, 21, 22, 6, 23, 24, 2, 25, 26, 27, 28, 29, 30, 31, 32, 33, 34, 35, 36, 37, 38, 39, 40, 41, 42, 43, 44, 45, 46, 47, 48, 49, 50, 51, 52, 53, 54, 55, 56, 57, 58, 59, 60, 61, 62, 63, 64, 65, 66, 67, 68, 69, 70, 71, 72, 73, 74, 75, 76, 77, 78, 79, 80, 81, 82, 83, 84, 85, 86, 87, 88, 89, 90, 91, 92, 93, 94, 95, 96, 97, 98, 99, 100, 101, 102, 103, 104, 105, 106, 107, 108, 109, 110, 111, 112, 113, 114, 115, 116, 117, 118, 119, 120, 171, 172, 173, 174, 175, 176, 177, 178, 179, 180, 181, 182, 183, 184, 185, 186, 187, 188, 189, 190, 191, 192, 193, 194, 195, 196, 197, 198, 199, 200, 201, 202, 203] (by decide +kernel) (by decide +kernel)
set_option maxRecDepth 20000 in
theorem gX5_tryStep_X5_stepByLog : GoodIn wsX5_tryStep (wsV RX5 100 RX5 yX5_stepByLog wsX5_stepByLog) := goodIn_app (goodIn_of _ (by decide +kernel)) ggX5_tryStep_X5_stepByLog
set_option maxRecDepth 20000 in
theorem ggX5_tryStep_X5_nextLiveKind : GoodIn wsX5_tryStep wsX5_nextLiveKind := goodIn_r _ [124, 125, 24, 126, 127, 128, 129, 130, 131, 31, 132, 40, 33, 171, 172, 173, 174, 175, 176, 177, 178, 179, 184, 185, 186, 187, 188, 189, 190, 191, 204, 205, 206] (by decide +kernel) (by decide +kernel)
set_option maxRecDepth 20000 in
theorem gX5_tryStep_X5_nextLiveKind : GoodIn wsX5_tryStep (wsV RX5 151 RX5 yX5_nextLiveKind wsX5_nextLiveKind) := goodIn_app (goodIn_of _ (by decide +kernel)) ggX5_tryStep_X5_nextLiveKind
set_option maxRecDepth 20000 in
theorem ggX5_tryStep_X5_isFull : GoodIn wsX5_tryStep wsX5_isFull := goodIn_r _ [136, 8, 9, 2, 25, 24, 27, 26, 137, 138, 139, 31, 140, 70, 40, 33, 141, 130, 131, 132, 59, 60, 61, 62, 41, 47, 48, 49, 63, 64, 65, 45, 6, 46, 71, 72, 73, 142, 143, 144, 87, 145, 90, 91, 146, 147, 148, 149, 150, 151, 152, 171, 172, 173, 174, 175, 176, 177, 178, 179, 180, 181, 182, 183, 184, 185, 186, 187, 188, 189, 190, 191, 192, 193, 194, 195, 196] (by decide +kernel) (by decide +kernel)
set_option maxRecDepth 20000 in
theorem gX5_tryStep_X5_isFull : GoodIn wsX5_tryStep (wsV RX5 154 RX5 yX5_isFull wsX5_isFull) := goodIn_app (goodIn_of _ (by decide +kernel)) ggX5_tryStep_X5_isFull
set_option maxRecDepth 20000 in
theorem ggX5_tryStep_X5_stepLive : GoodIn wsX5_tryStep wsX5_stepLive := goodIn_r _ [156, 125, 127, 8, 1, 157, 158, 159, 160, 161, 162, 163, 164, 165, 166, 167, 16, 168, 19, 18, 169, 170, 20, 21, 22, 6, 23, 24, 2, 25, 26, 27, 28, 29, 30, 31, 32, 33, 34, 35, 36, 37, 38, 39, 40, 41, 42, 43, 44, 45, 46, 47, 48, 49, 50, 51, 52, 53, 54, 55, 56, 57, 58, 59, 60, 61, 62, 63, 64, 65, 66, 67, 68, 69, 70, 71, 72, 73, 74, 75, 76, 77, 78, 79, 80, 81, 82, 83, 84, 85, 86, 87, 88, 89, 90, 91, 92, 93, 94, 95, 96, 97, 98, 99, 100, 101, 102, 103, 104, 105, 106, 107, 108, 109, 110, 111, 112, 113, 114, 115, 116, 117, 118, 119, 120, 171, 172, 173, 174, 175, 176, 177, 178, 179, 204, 205, 206, 180, 181, 182, 183, 184, 185, 186, 187, 188, 189, 190, 191, 192, 193, 194, 195, 196, 197, 198, 199, 200, 201, 202, 203] (by decide +kernel) (by decide +kernel)
set_option maxRecDepth 20000 in
theorem gX5_tryStep_X5_stepLive : GoodIn wsX5_tryStep (wsV RX5 157 RX5 yX5_stepLive wsX5_stepLive) := goodIn_app (goodIn_of _ (by decide +kernel)) ggX5_tryStep_X5_stepLive
theorem dX5_tryStep_0 : decode cX5_tryStep 0 = .ok (.aload_n 0, 1) := by decide +kernel
theorem dX5_tryStep_1 : decode cX5_tryStep 1 = .ok (.getfield 78, 3) := by decide +kernel
theorem dX5_tryStep_4 : decode cX5_tryStep 4 = .ok (.aload_n 0, 1) := by decide +kernel
theorem dX5_tryStep_5 : decode cX5_tryStep 5 = .ok (.getfield 81, 3) := by decide +kernel
theorem dX5_tryStep_8 : decode cX5_tryStep 8 = .ok (.if_icmp .ge 9, 3) := by decide +kernel
theorem dX5_tryStep_11 : decode cX5_tryStep 11 = .ok (.aload_n 0, 1) := by decide +kernel
theorem dX5_tryStep_12 : decode cX5_tryStep 12 = .ok (.invokevirtual 100, 3) := by decide +kernel
theorem dX5_tryStep_15 : decode cX5_tryStep 15 = .ok (.iconst 1, 1) := by decide +kernel
theorem dX5_tryStep_16 : decode cX5_tryStep 16 = .ok (.ireturn, 1) := by decide +kernel
theorem dX5_tryStep_17 : decode cX5_tryStep 17 = .ok (.aload_n 0, 1) := by decide +kernel
theorem dX5_tryStep_18 : decode cX5_tryStep 18 = .ok (.invokevirtual 151, 3) := by decide +kernel
theorem dX5_tryStep_21 : decode cX5_tryStep 21 = .ok (.istore_n 1, 1) := by decide +kernel
theorem dX5_tryStep_22 : decode cX5_tryStep 22 = .ok (.iload_n 1, 1) := by decide +kernel
theorem dX5_tryStep_23 : decode cX5_tryStep 23 = .ok (.iconst (-1), 1) := by decide +kernel
theorem dX5_tryStep_24 : decode cX5_tryStep 24 = .ok (.if_icmp .eq 11, 3) := by decide +kernel
theorem dX5_tryStep_27 : decode cX5_tryStep 27 = .ok (.aload_n 0, 1) := by decide +kernel
theorem dX5_tryStep_28 : decode cX5_tryStep 28 = .ok (.iload_n 1, 1) := by decide +kernel
theorem dX5_tryStep_29 : decode cX5_tryStep 29 = .ok (.invokevirtual 154, 3) := by decide +kernel
theorem dX5_tryStep_32 : decode cX5_tryStep 32 = .ok (.ifCond .eq 5, 3) := by decide +kernel
theorem dX5_tryStep_35 : decode cX5_tryStep 35 = .ok (.iconst 0, 1) := by decide +kernel
theorem dX5_tryStep_36 : decode cX5_tryStep 36 = .ok (.ireturn, 1) := by decide +kernel
theorem dX5_tryStep_37 : decode cX5_tryStep 37 = .ok (.aload_n 0, 1) := by decide +kernel
theorem dX5_tryStep_38 : decode cX5_tryStep 38 = .ok (.iload_n 1, 1) := by decide +kernel
theorem dX5_tryStep_39 : decode cX5_tryStep 39 = .ok (.invokevirtual 157, 3) := by decide +kernel
theorem dX5_tryStep_42 : decode cX5_tryStep 42 = .ok (.iconst 1, 1) := by decide +kernel
theorem dX5_tryStep_43 : decode cX5_tryStep 43 = .ok (.ireturn, 1) := by decide +kernel
set_option maxRecDepth 20000 in
theorem ggX5_nextLiveKind_X2_nextOp : GoodIn wsX5_nextLiveKind wsX2_nextOp := goodIn_r _ [10, 11, 12, 22, 23, 24, 25, 26, 27, 28, 29] (by decide +kernel) (by decide +kernel)
set_option maxRecDepth 20000 in
theorem gX5_nextLiveKind_X2_nextOp : GoodIn wsX5_nextLiveKind (wsV RX5 160 RX2 yX2_nextOp wsX2_nextOp) := goodIn_app (goodIn_of _ (by decide +kernel)) ggX5_nextLiveKind_X2_nextOp
theorem dX5_nextLiveKind_0 : decode cX5_nextLiveKind 0 = .ok (.aload_n 0, 1) := by decide +kernel
theorem dX5_nextLiveKind_1 : decode cX5_nextLiveKind 1 = .ok (.getfield 75, 3) := by decide +kernel
theorem dX5_nextLiveKind_4 : decode cX5_nextLiveKind 4 = .ok (.ifCond .eq 15, 3) := by decide +kernel
theorem dX5_nextLiveKind_7 : decode cX5_nextLiveKind 7 = .ok (.aload_n 0, 1) := by decide +kernel
theorem dX5_nextLiveKind_8 : decode cX5_nextLiveKind 8 = .ok (.getfield 25, 3) := by decide +kernel
theorem dX5_nextLiveKind_11 : decode cX5_nextLiveKind 11 = .ok (.getfield 142, 3) := by decide +kernel
theorem dX5_nextLiveKind_14 : decode cX5_nextLiveKind 14 = .ok (.ifCond .eq 5, 3) := by decide +kernel
theorem dX5_nextLiveKind_17 : decode cX5_nextLiveKind 17 = .ok (.iconst 2, 1) := by decide +kernel
theorem dX5_nextLiveKind_18 : decode cX5_nextLiveKind 18 = .ok (.ireturn, 1) := by decide +kernel
theorem dX5_nextLiveKind_19 : decode cX5_nextLiveKind 19 = .ok (.aload_n 0, 1) := by decide +kernel
theorem dX5_nextLiveKind_20 : decode cX5_nextLiveKind 20 = .ok (.getfield 25, 3) := by decide +kernel
theorem dX5_nextLiveKind_23 : decode cX5_nextLiveKind 23 = .ok (.invokevirtual 160, 3) := by decide +kernel
theorem dX5_nextLiveKind_26 : decode cX5_nextLiveKind 26 = .ok (.istore_n 1, 1) := by decide +kernel
theorem dX5_nextLiveKind_27 : decode cX5_nextLiveKind 27 = .ok (.iload_n 1, 1) := by decide +kernel
theorem dX5_nextLiveKind_28 : decode cX5_nextLiveKind 28 = .ok (.ifCond .ne 5, 3) := by decide +kernel
theorem dX5_nextLiveKind_31 : decode cX5_nextLiveKind 31 = .ok (.iconst (-1), 1) := by decide +kernel
theorem dX5_nextLiveKind_32 : decode cX5_nextLiveKind 32 = .ok (.ireturn, 1) := by decide +kernel
theorem dX5_nextLiveKind_33 : decode cX5_nextLiveKind 33 = .ok (.iload_n 1, 1) := by decide +kernel
theorem dX5_nextLiveKind_34 : decode cX5_nextLiveKind 34 = .ok (.bipush 12, 2) := by decide +kernel
theorem dX5_nextLiveKind_36 : decode cX5_nextLiveKind 36 = .ok (.if_icmp .eq 5, 3) := by decide +kernel
theorem dX5_nextLiveKind_39 : decode cX5_nextLiveKind 39 = .ok (.iconst 0, 1) := by decide +kernel
theorem dX5_nextLiveKind_40 : decode cX5_nextLiveKind 40 = .ok (.ireturn, 1) := by decide +kernel
theorem dX5_nextLiveKind_41 : decode cX5_nextLiveKind 41 = .ok (.aload_n 0, 1) := by decide +kernel
theorem dX5_nextLiveKind_42 : decode cX5_nextLiveKind 42 = .ok (.getfield 32, 3) := by decide +kernel
theorem dX5_nextLiveKind_45 : decode cX5_nextLiveKind 45 = .ok (.getfield 84, 3) := by decide +kernel
theorem dX5_nextLiveKind_48 : decode cX5_nextLiveKind 48 = .ok (.ifCond .le 7, 3) := by decide +kernel
theorem dX5_nextLiveKind_51 : decode cX5_nextLiveKind 51 = .ok (.iconst 1, 1) := by decide +kernel
theorem dX5_nextLiveKind_52 : decode cX5_nextLiveKind 52 = .ok (.goto 4, 3) := by decide +kernel
theorem dX5_nextLiveKind_55 : decode cX5_nextLiveKind 55 = .ok (.iconst (-1), 1) := by decide +kernel
theorem dX5_nextLiveKind_56 : decode cX5_nextLiveKind 56 = .ok (.ireturn, 1) := by decide +kernel
set_option maxRecDepth 20000 in
theorem ggX5_isFull_X2_writtenWithNext : GoodIn wsX5_isFull wsX2_writtenWithNext := goodIn_r _ [12, 13, 14, 15, 16, 17, 18, 11, 19, 20, 21, 22, 23, 24, 25, 26, 27, 28, 29, 30, 31, 32, 33, 34, 35, 36, 64, 65, 66, 67, 68, 69, 70, 71] (by decide +kernel) (by decide +kernel)
set_option maxRecDepth 20000 in
theorem gX5_isFull_X2_writtenWithNext : GoodIn wsX5_isFull (wsV RX5 166 RX2 yX2_writtenWithNext wsX2_writtenWithNext) := goodIn_app (goodIn_of _ (by decide +kernel)) ggX5_isFull_X2_writtenWithNext
set_option maxRecDepth 20000 in
theorem ggX5_isFull_X4_hasRoomFor : GoodIn wsX5_isFull wsX4_hasRoomFor := goodIn_r _ [41, 42, 43, 44, 45, 46, 47, 48, 49, 50, 72, 73, 74, 75, 76] (by decide +kernel) (by decide +kernel)
set_option maxRecDepth 20000 in
theorem gX5_isFull_X4_hasRoomFor : GoodIn wsX5_isFull (wsV RX5 169 RX4 yX4_hasRoomFor wsX4_hasRoomFor) := goodIn_app (goodIn_of _ (by decide +kernel)) ggX5_isFull_X4_hasRoomFor
theorem dX5_isFull_0 : decode cX5_isFull 0 = .ok (.iload_n 1, 1) := by decide +kernel
theorem dX5_isFull_1 : decode cX5_isFull 1 = .ok (.ifCond .eq 18, 3) := by decide +kernel
theorem dX5_isFull_4 : decode cX5_isFull 4 = .ok (.aload_n 0, 1) := by decide +kernel
theorem dX5_isFull_5 : decode cX5_isFull 5 = .ok (.getfield 39, 3) := by decide +kernel
theorem dX5_isFull_8 : decode cX5_isFull 8 = .ok (.getfield 68, 3) := by decide +kernel
theorem dX5_isFull_11 : decode cX5_isFull 11 = .ok (.sipush 300, 3) := by decide +kernel
theorem dX5_isFull_14 : decode cX5_isFull 14 = .ok (.if_icmp .lt 5, 3) := by decide +kernel
theorem dX5_isFull_17 : decode cX5_isFull 17 = .ok (.iconst 1, 1) := by decide +kernel
theorem dX5_isFull_18 : decode cX5_isFull 18 = .ok (.ireturn, 1) := by decide +kernel
theorem dX5_isFull_19 : decode cX5_isFull 19 = .ok (.aload_n 0, 1) := by decide +kernel
theorem dX5_isFull_20 : decode cX5_isFull 20 = .ok (.getfield 81, 3) := by decide +kernel
theorem dX5_isFull_23 : decode cX5_isFull 23 = .ok (.iconst 1, 1) := by decide +kernel
theorem dX5_isFull_24 : decode cX5_isFull 24 = .ok (.iadd, 1) := by decide +kernel
theorem dX5_isFull_25 : decode cX5_isFull 25 = .ok (.aload_n 0, 1) := by decide +kernel
theorem dX5_isFull_26 : decode cX5_isFull 26 = .ok (.getfield 18, 3) := by decide +kernel
theorem dX5_isFull_29 : decode cX5_isFull 29 = .ok (.irem, 1) := by decide +kernel
theorem dX5_isFull_30 : decode cX5_isFull 30 = .ok (.ifCond .eq 5, 3) := by decide +kernel
theorem dX5_isFull_33 : decode cX5_isFull 33 = .ok (.iconst 0, 1) := by decide +kernel
theorem dX5_isFull_34 : decode cX5_isFull 34 = .ok (.ireturn, 1) := by decide +kernel
theorem dX5_isFull_35 : decode cX5_isFull 35 = .ok (.iload_n 1, 1) := by decide +kernel
theorem dX5_isFull_36 : decode cX5_isFull 36 = .ok (.iconst 2, 1) := by decide +kernel
theorem dX5_isFull_37 : decode cX5_isFull 37 = .ok (.if_icmp .ne 13, 3) := by decide +kernel
theorem dX5_isFull_40 : decode cX5_isFull 40 = .ok (.aload_n 0, 1) := by decide +kernel
theorem dX5_isFull_41 : decode cX5_isFull 41 = .ok (.getfield 25, 3) := by decide +kernel
theorem dX5_isFull_44 : decode cX5_isFull 44 = .ok (.getfield 163, 3) := by decide +kernel
theorem dX5_isFull_47 : decode cX5_isFull 47 = .ok (.goto 10, 3) := by decide +kernel
theorem dX5_isFull_50 : decode cX5_isFull 50 = .ok (.aload_n 0, 1) := by decide +kernel
theorem dX5_isFull_51 : decode cX5_isFull 51 = .ok (.getfield 25, 3) := by decide +kernel
theorem dX5_isFull_54 : decode cX5_isFull 54 = .ok (.invokevirtual 166, 3) := by decide +kernel
theorem dX5_isFull_57 : decode cX5_isFull 57 = .ok (.istore_n 2, 1) := by decide +kernel
theorem dX5_isFull_58 : decode cX5_isFull 58 = .ok (.aload_n 0, 1) := by decide +kernel
theorem dX5_isFull_59 : decode cX5_isFull 59 = .ok (.getfield 46, 3) := by decide +kernel
theorem dX5_isFull_62 : decode cX5_isFull 62 = .ok (.iload_n 2, 1) := by decide +kernel
theorem dX5_isFull_63 : decode cX5_isFull 63 = .ok (.invokevirtual 169, 3) := by decide +kernel
theorem dX5_isFull_66 : decode cX5_isFull 66 = .ok (.ifCond .ne 7, 3) := by decide +kernel
theorem dX5_isFull_69 : decode cX5_isFull 69 = .ok (.iconst 1, 1) := by decide +kernel
theorem dX5_isFull_70 : decode cX5_isFull 70 = .ok (.goto 4, 3) := by decide +kernel
theorem dX5_isFull_73 : decode cX5_isFull 73 = .ok (.iconst 0, 1) := by decide +kernel
theorem dX5_isFull_74 : decode cX5_isFull 74 = .ok (.ireturn, 1) := by decide +kernel
set_option maxRecDepth 20000 in
theorem ggX5_stepLive_X0_take : GoodIn wsX5_stepLive wsX0_take := goodIn_r _ [9, 10, 11, 12, 134, 135, 136] (by decide +kernel) (by decide +kernel)
set_option maxRecDepth 20000 in
theorem gX5_stepLive_X0_take : GoodIn wsX5_stepLive (wsV RX5 172 RX0 yX0_take wsX0_take) := goodIn_app (goodIn_of _ (by decide +kernel)) ggX5_stepLive_X0_take
set_option maxRecDepth 20000 in
theorem ggX5_stepLive_X1_add : GoodIn wsX5_stepLive wsX1_add := goodIn_r _ [17, 18, 19, 20, 21, 137, 138, 139, 140] (by decide +kernel) (by decide +kernel)
set_option maxRecDepth 20000 in
theorem gX5_stepLive_X1_add : GoodIn wsX5_stepLive (wsV RX5 175 RX1 yX1_add wsX1_add) := goodIn_app (goodIn_of _ (by decide +kernel)) ggX5_stepLive_X1_add
set_option maxRecDepth 20000 in
theorem ggX5_stepLive_X5_advance : GoodIn wsX5_stepLive wsX5_advance := goodIn_r _ [26, 27, 4, 28, 29, 30, 31, 32, 33, 34, 35, 36, 37, 38, 39, 40, 41, 42, 43, 44, 45, 46, 47, 48, 49, 25, 50, 51, 52, 53, 54, 55, 56, 57, 58, 59, 60, 61, 62, 63, 64, 65, 66, 67, 68, 69, 70, 71, 72, 73, 74, 75, 76, 77, 78, 79, 80, 81, 82, 83, 84, 85, 86, 87, 88, 89, 90, 91, 92, 93, 94, 95, 96, 97, 98, 99, 100, 101, 102, 103, 104, 105, 106, 107, 108, 109, 110, 111, 112, 113, 114, 115, 116, 117, 118, 119, 120, 121, 122, 123, 124, 125, 126, 127, 128, 129, 130, 131, 132, 133, 141, 142, 143, 144, 145, 146, 147, 148, 149, 150, 151, 152, 153, 154, 155, 156, 157, 158, 159, 160] (by decide +kernel) (by decide +kernel)
set_option maxRecDepth 20000 in
theorem gX5_stepLive_X5_advance : GoodIn wsX5_stepLive (wsV RX5 178 RX5 yX5_advance wsX5_advance) := goodIn_app (goodIn_of _ (by decide +kernel)) ggX5_stepLive_X5_advance
theorem dX5_stepLive_0 : decode cX5_stepLive 0 = .ok (.iconst 0, 1) := by decide +kernel
theorem dX5_stepLive_1 : decode cX5_stepLive 1 = .ok (.istore_n 2, 1) := by decide +kernel
theorem dX5_stepLive_2 : decode cX5_stepLive 2 = .ok (.iload_n 1, 1) := by decide +kernel
theorem dX5_stepLive_3 : decode cX5_stepLive 3 = .ok (.iconst 2, 1) := by decide +kernel
theorem dX5_stepLive_4 : decode cX5_stepLive 4 = .ok (.if_icmp .ne 11, 3) := by decide +kernel
theorem dX5_stepLive_7 : decode cX5_stepLive 7 = .ok (.aload_n 0, 1) := by decide +kernel
theorem dX5_stepLive_8 : decode cX5_stepLive 8 = .ok (.iconst 0, 1) := by decide +kernel
theorem dX5_stepLive_9 : decode cX5_stepLive 9 = .ok (.putfield 75, 3) := by decide +kernel
theorem dX5_stepLive_12 : decode cX5_stepLive 12 = .ok (.goto 16, 3) := by decide +kernel
theorem dX5_stepLive_15 : decode cX5_stepLive 15 = .ok (.iload_n 1, 1) := by decide +kernel
theorem dX5_stepLive_16 : decode cX5_stepLive 16 = .ok (.iconst 1, 1) := by decide +kernel
theorem dX5_stepLive_17 : decode cX5_stepLive 17 = .ok (.if_icmp .ne 11, 3) := by decide +kernel
theorem dX5_stepLive_20 : decode cX5_stepLive 20 = .ok (.aload_n 0, 1) := by decide +kernel
theorem dX5_stepLive_21 : decode cX5_stepLive 21 = .ok (.getfield 32, 3) := by decide +kernel
theorem dX5_stepLive_24 : decode cX5_stepLive 24 = .ok (.invokevirtual 172, 3) := by decide +kernel
theorem dX5_stepLive_27 : decode cX5_stepLive 27 = .ok (.istore_n 2, 1) := by decide +kernel
theorem dX5_stepLive_28 : decode cX5_stepLive 28 = .ok (.iload_n 1, 1) := by decide +kernel
theorem dX5_stepLive_29 : decode cX5_stepLive 29 = .ok (.ifCond .eq 16, 3) := by decide +kernel
theorem dX5_stepLive_32 : decode cX5_stepLive 32 = .ok (.aload_n 0, 1) := by decide +kernel
theorem dX5_stepLive_33 : decode cX5_stepLive 33 = .ok (.getfield 39, 3) := by decide +kernel
theorem dX5_stepLive_36 : decode cX5_stepLive 36 = .ok (.aload_n 0, 1) := by decide +kernel
theorem dX5_stepLive_37 : decode cX5_stepLive 37 = .ok (.getfield 78, 3) := by decide +kernel
theorem dX5_stepLive_40 : decode cX5_stepLive 40 = .ok (.iload_n 1, 1) := by decide +kernel
theorem dX5_stepLive_41 : decode cX5_stepLive 41 = .ok (.iload_n 2, 1) := by decide +kernel
theorem dX5_stepLive_42 : decode cX5_stepLive 42 = .ok (.invokevirtual 175, 3) := by decide +kernel
theorem dX5_stepLive_45 : decode cX5_stepLive 45 = .ok (.aload_n 0, 1) := by decide +kernel
theorem dX5_stepLive_46 : decode cX5_stepLive 46 = .ok (.iload_n 1, 1) := by decide +kernel
theorem dX5_stepLive_47 : decode cX5_stepLive 47 = .ok (.iload_n 2, 1) := by decide +kernel
theorem dX5_stepLive_48 : decode cX5_stepLive 48 = .ok (.invokevirtual 178, 3) := by decide +kernel
theorem dX5_stepLive_51 : decode cX5_stepLive 51 = .ok (.return_, 1) := by decide +kernel
set_option maxRecDepth 20000 in
theorem ggX5_stepByLog_X1_countBefore : GoodIn wsX5_stepByLog wsX1_countBefore := goodIn_r _ [11, 12, 13, 126, 127, 128, 129] (by decide +kernel) (by decide +kernel)
set_option maxRecDepth 20000 in
theorem gX5_stepByLog_X1_countBefore : GoodIn wsX5_stepByLog (wsV RX5 103 RX1 yX1_countBefore wsX1_countBefore) := goodIn_app (goodIn_of _ (by decide +kernel)) ggX5_stepByLog_X1_countBefore
set_option maxRecDepth 20000 in
theorem ggX5_stepByLog_X5_advance : GoodIn wsX5_stepByLog wsX5_advance := goodIn_r _ [18, 19, 2, 20, 21, 22, 23, 24, 25, 26, 27, 28, 29, 30, 31, 32, 33, 34, 35, 36, 37, 38, 39, 40, 41, 17, 42, 43, 44, 45, 46, 47, 48, 49, 50, 51, 52, 53, 54, 55, 56, 57, 58, 59, 60, 61, 62, 63, 64, 65, 66, 67, 68, 69, 70, 71, 72, 73, 74, 75, 76, 77, 78, 79, 80, 81, 82, 83, 84, 85, 86, 87, 88, 89, 90, 91, 92, 93, 94, 95, 96, 97, 98, 99, 100, 101, 102, 103, 104, 105, 106, 107, 108, 109, 110, 111, 112, 113, 114, 115, 116, 117, 118, 119, 120, 121, 122, 123, 124, 125, 130, 131, 132, 133, 134, 135, 136, 137, 138, 139, 140, 141, 142, 143, 144, 145, 146, 147, 148, 149] (by decide +kernel) (by decide +kernel)
set_option maxRecDepth 20000 in
theorem gX5_stepByLog_X5_advance : GoodIn wsX5_stepByLog (wsV RX5 178 RX5 yX5_advance wsX5_advance) := goodIn_app (goodIn_of _ (by decide +kernel)) ggX5_stepByLog_X5_advance
theorem dX5_stepByLog_0 : decode cX5_stepByLog 0 = .ok (.aload_n 0, 1) := by decide +kernel
theorem dX5_stepByLog_1 : decode cX5_stepByLog 1 = .ok (.getfield 39, 3) := by decide +kernel
theorem dX5_stepByLog_4 : decode cX5_stepByLog 4 = .ok (.aload_n 0, 1) := by decide +kernel
theorem dX5_stepByLog_5 : decode cX5_stepByLog 5 = .ok (.getfield 78, 3) := by decide +kernel
theorem dX5_stepByLog_8 : decode cX5_stepByLog 8 = .ok (.invokevirtual 103, 3) := by decide +kernel
theorem dX5_stepByLog_11 : decode cX5_stepByLog 11 = .ok (.istore_n 1, 1) := by decide +kernel
theorem dX5_stepByLog_12 : decode cX5_stepByLog 12 = .ok (.iload_n 1, 1) := by decide +kernel
theorem dX5_stepByLog_13 : decode cX5_stepByLog 13 = .ok (.aload_n 0, 1) := by decide +kernel
theorem dX5_stepByLog_14 : decode cX5_stepByLog 14 = .ok (.getfield 39, 3) := by decide +kernel
theorem dX5_stepByLog_17 : decode cX5_stepByLog 17 = .ok (.getfield 68, 3) := by decide +kernel
theorem dX5_stepByLog_20 : decode cX5_stepByLog 20 = .ok (.if_icmp .ge 44, 3) := by decide +kernel
theorem dX5_stepByLog_23 : decode cX5_stepByLog 23 = .ok (.aload_n 0, 1) := by decide +kernel
theorem dX5_stepByLog_24 : decode cX5_stepByLog 24 = .ok (.getfield 39, 3) := by decide +kernel
theorem dX5_stepByLog_27 : decode cX5_stepByLog 27 = .ok (.getfield 124, 3) := by decide +kernel
theorem dX5_stepByLog_30 : decode cX5_stepByLog 30 = .ok (.iload_n 1, 1) := by decide +kernel
theorem dX5_stepByLog_31 : decode cX5_stepByLog 31 = .ok (.iaload, 1) := by decide +kernel
theorem dX5_stepByLog_32 : decode cX5_stepByLog 32 = .ok (.aload_n 0, 1) := by decide +kernel
theorem dX5_stepByLog_33 : decode cX5_stepByLog 33 = .ok (.getfield 78, 3) := by decide +kernel
theorem dX5_stepByLog_36 : decode cX5_stepByLog 36 = .ok (.if_icmp .ne 28, 3) := by decide +kernel
theorem dX5_stepByLog_39 : decode cX5_stepByLog 39 = .ok (.aload_n 0, 1) := by decide +kernel
theorem dX5_stepByLog_40 : decode cX5_stepByLog 40 = .ok (.aload_n 0, 1) := by decide +kernel
theorem dX5_stepByLog_41 : decode cX5_stepByLog 41 = .ok (.getfield 39, 3) := by decide +kernel
theorem dX5_stepByLog_44 : decode cX5_stepByLog 44 = .ok (.getfield 127, 3) := by decide +kernel
theorem dX5_stepByLog_47 : decode cX5_stepByLog 47 = .ok (.iload_n 1, 1) := by decide +kernel
theorem dX5_stepByLog_48 : decode cX5_stepByLog 48 = .ok (.iaload, 1) := by decide +kernel
theorem dX5_stepByLog_49 : decode cX5_stepByLog 49 = .ok (.aload_n 0, 1) := by decide +kernel
theorem dX5_stepByLog_50 : decode cX5_stepByLog 50 = .ok (.getfield 39, 3) := by decide +kernel
theorem dX5_stepByLog_53 : decode cX5_stepByLog 53 = .ok (.getfield 130, 3) := by decide +kernel
theorem dX5_stepByLog_56 : decode cX5_stepByLog 56 = .ok (.iload_n 1, 1) := by decide +kernel
theorem dX5_stepByLog_57 : decode cX5_stepByLog 57 = .ok (.iaload, 1) := by decide +kernel
theorem dX5_stepByLog_58 : decode cX5_stepByLog 58 = .ok (.invokevirtual 178, 3) := by decide +kernel
theorem dX5_stepByLog_61 : decode cX5_stepByLog 61 = .ok (.goto 9, 3) := by decide +kernel
theorem dX5_stepByLog_64 : decode cX5_stepByLog 64 = .ok (.aload_n 0, 1) := by decide +kernel
theorem dX5_stepByLog_65 : decode cX5_stepByLog 65 = .ok (.iconst 0, 1) := by decide +kernel
theorem dX5_stepByLog_66 : decode cX5_stepByLog 66 = .ok (.iconst 0, 1) := by decide +kernel
theorem dX5_stepByLog_67 : decode cX5_stepByLog 67 = .ok (.invokevirtual 178, 3) := by decide +kernel
theorem dX5_stepByLog_70 : decode cX5_stepByLog 70 = .ok (.return_, 1) := by decide +kernel
set_option maxRecDepth 20000 in
theorem ggX5_advance_X2_takeRing : GoodIn wsX5_advance wsX2_takeRing := goodIn_r _ [11, 12, 13, 14, 110, 111, 112, 113, 114, 115, 116, 117] (by decide +kernel) (by decide +kernel)
set_option maxRecDepth 20000 in
theorem gX5_advance_X2_takeRing : GoodIn wsX5_advance (wsV RX5 182 RX2 yX2_takeRing wsX2_takeRing) := goodIn_app (goodIn_of _ (by decide +kernel)) ggX5_advance_X2_takeRing
set_option maxRecDepth 20000 in
theorem ggX5_advance_X2_perform : GoodIn wsX5_advance wsX2_perform := goodIn_r _ [18, 19, 12, 20, 14, 21, 22, 10, 23, 24, 25, 26, 27, 28, 29, 30, 31, 32, 33, 34, 35, 36, 37, 38, 39, 40, 41, 42, 43, 44, 45, 46, 47, 48, 49, 50, 51, 52, 53, 54, 55, 56, 57, 58, 59, 60, 61, 62, 63, 13, 110, 111, 112, 113, 114, 115, 116, 117] (by decide +kernel) (by decide +kernel)
set_option maxRecDepth 20000 in
theorem gX5_advance_X2_perform : GoodIn wsX5_advance (wsV RX5 185 RX2 yX2_perform wsX2_perform) := goodIn_app (goodIn_of _ (by decide +kernel)) ggX5_advance_X2_perform
set_option maxRecDepth 20000 in
theorem ggX5_advance_X4_add : GoodIn wsX5_advance wsX4_add := goodIn_r _ [68, 69, 70, 71, 72, 73, 74, 75, 76, 77, 78, 79, 80, 81, 82, 83, 84, 85, 86, 87, 88, 89, 90, 91, 92, 93, 94, 95, 96, 97, 98, 99, 100, 118, 119, 120, 121, 122, 123, 124, 125, 126, 127, 128, 129, 110, 111, 112, 113, 114, 115, 116, 117] (by decide +kernel) (by decide +kernel)
set_option maxRecDepth 20000 in
theorem gX5_advance_X4_add : GoodIn wsX5_advance (wsV RX5 188 RX4 yX4_add wsX4_add) := goodIn_app (goodIn_of _ (by decide +kernel)) ggX5_advance_X4_add
theorem dX5_advance_0 : decode cX5_advance 0 = .ok (.iload_n 1, 1) := by decide +kernel
theorem dX5_advance_1 : decode cX5_advance 1 = .ok (.iconst 2, 1) := by decide +kernel
theorem dX5_advance_2 : decode cX5_advance 2 = .ok (.if_icmp .ne 13, 3) := by decide +kernel
theorem dX5_advance_5 : decode cX5_advance 5 = .ok (.aload_n 0, 1) := by decide +kernel
theorem dX5_advance_6 : decode cX5_advance 6 = .ok (.getfield 25, 3) := by decide +kernel
theorem dX5_advance_9 : decode cX5_advance 9 = .ok (.invokevirtual 182, 3) := by decide +kernel
theorem dX5_advance_12 : decode cX5_advance 12 = .ok (.goto 15, 3) := by decide +kernel
theorem dX5_advance_15 : decode cX5_advance 15 = .ok (.aload_n 0, 1) := by decide +kernel
theorem dX5_advance_16 : decode cX5_advance 16 = .ok (.getfield 25, 3) := by decide +kernel
theorem dX5_advance_19 : decode cX5_advance 19 = .ok (.aload_n 0, 1) := by decide +kernel
theorem dX5_advance_20 : decode cX5_advance 20 = .ok (.getfield 78, 3) := by decide +kernel
theorem dX5_advance_23 : decode cX5_advance 23 = .ok (.iload_n 2, 1) := by decide +kernel
theorem dX5_advance_24 : decode cX5_advance 24 = .ok (.invokevirtual 185, 3) := by decide +kernel
theorem dX5_advance_27 : decode cX5_advance 27 = .ok (.aload_n 0, 1) := by decide +kernel
theorem dX5_advance_28 : decode cX5_advance 28 = .ok (.dup, 1) := by decide +kernel
theorem dX5_advance_29 : decode cX5_advance 29 = .ok (.getfield 78, 3) := by decide +kernel
theorem dX5_advance_32 : decode cX5_advance 32 = .ok (.iconst 1, 1) := by decide +kernel
theorem dX5_advance_33 : decode cX5_advance 33 = .ok (.iadd, 1) := by decide +kernel
theorem dX5_advance_34 : decode cX5_advance 34 = .ok (.putfield 78, 3) := by decide +kernel
theorem dX5_advance_37 : decode cX5_advance 37 = .ok (.aload_n 0, 1) := by decide +kernel
theorem dX5_advance_38 : decode cX5_advance 38 = .ok (.getfield 78, 3) := by decide +kernel
theorem dX5_advance_41 : decode cX5_advance 41 = .ok (.aload_n 0, 1) := by decide +kernel
theorem dX5_advance_42 : decode cX5_advance 42 = .ok (.getfield 81, 3) := by decide +kernel
theorem dX5_advance_45 : decode cX5_advance 45 = .ok (.if_icmp .le 7, 3) := by decide +kernel
theorem dX5_advance_48 : decode cX5_advance 48 = .ok (.iconst 1, 1) := by decide +kernel
theorem dX5_advance_49 : decode cX5_advance 49 = .ok (.goto 4, 3) := by decide +kernel
theorem dX5_advance_52 : decode cX5_advance 52 = .ok (.iconst 0, 1) := by decide +kernel
theorem dX5_advance_53 : decode cX5_advance 53 = .ok (.istore_n 3, 1) := by decide +kernel
theorem dX5_advance_54 : decode cX5_advance 54 = .ok (.iload_n 3, 1) := by decide +kernel
theorem dX5_advance_55 : decode cX5_advance 55 = .ok (.ifCond .eq 11, 3) := by decide +kernel
theorem dX5_advance_58 : decode cX5_advance 58 = .ok (.aload_n 0, 1) := by decide +kernel
theorem dX5_advance_59 : decode cX5_advance 59 = .ok (.aload_n 0, 1) := by decide +kernel
theorem dX5_advance_60 : decode cX5_advance 60 = .ok (.getfield 78, 3) := by decide +kernel
theorem dX5_advance_63 : decode cX5_advance 63 = .ok (.putfield 81, 3) := by decide +kernel
theorem dX5_advance_66 : decode cX5_advance 66 = .ok (.aload_n 0, 1) := by decide +kernel
theorem dX5_advance_67 : decode cX5_advance 67 = .ok (.getfield 78, 3) := by decide +kernel
theorem dX5_advance_70 : decode cX5_advance 70 = .ok (.aload_n 0, 1) := by decide +kernel
theorem dX5_advance_71 : decode cX5_advance 71 = .ok (.getfield 18, 3) := by decide +kernel
theorem dX5_advance_74 : decode cX5_advance 74 = .ok (.irem, 1) := by decide +kernel
theorem dX5_advance_75 : decode cX5_advance 75 = .ok (.ifCond .ne 26, 3) := by decide +kernel
theorem dX5_advance_78 : decode cX5_advance 78 = .ok (.iload_n 3, 1) := by decide +kernel
theorem dX5_advance_79 : decode cX5_advance 79 = .ok (.ifCond .eq 14, 3) := by decide +kernel
theorem dX5_advance_82 : decode cX5_advance 82 = .ok (.aload_n 0, 1) := by decide +kernel
theorem dX5_advance_83 : decode cX5_advance 83 = .ok (.getfield 46, 3) := by decide +kernel
theorem dX5_advance_86 : decode cX5_advance 86 = .ok (.aload_n 0, 1) := by decide +kernel
theorem dX5_advance_87 : decode cX5_advance 87 = .ok (.getfield 25, 3) := by decide +kernel
theorem dX5_advance_90 : decode cX5_advance 90 = .ok (.invokevirtual 188, 3) := by decide +kernel
theorem dX5_advance_93 : decode cX5_advance 93 = .ok (.aload_n 0, 1) := by decide +kernel
theorem dX5_advance_94 : decode cX5_advance 94 = .ok (.getfield 25, 3) := by decide +kernel
theorem dX5_advance_97 : decode cX5_advance 97 = .ok (.iconst 0, 1) := by decide +kernel
theorem dX5_advance_98 : decode cX5_advance 98 = .ok (.putfield 163, 3) := by decide +kernel
theorem dX5_advance_101 : decode cX5_advance 101 = .ok (.return_, 1) := by decide +kernel
