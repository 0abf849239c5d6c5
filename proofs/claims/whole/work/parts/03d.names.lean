theorem dX6_init_0 : decode cX6_init 0 = .ok (.aload_n 0, 1) := by decide +kernel
theorem dX6_init_1 : decode cX6_init 1 = .ok (.invokespecial 1, 3) := by decide +kernel
theorem dX6_init_4 : decode cX6_init 4 = .ok (.aload_n 0, 1) := by decide +kernel
theorem dX6_init_5 : decode cX6_init 5 = .ok (.sipush 512, 3) := by decide +kernel
theorem dX6_init_8 : decode cX6_init 8 = .ok (.newarray .int, 2) := by decide +kernel
theorem dX6_init_10 : decode cX6_init 10 = .ok (.putfield 7, 3) := by decide +kernel
theorem dX6_init_13 : decode cX6_init 13 = .ok (.aload_n 0, 1) := by decide +kernel
theorem dX6_init_14 : decode cX6_init 14 = .ok (.sipush 512, 3) := by decide +kernel
theorem dX6_init_17 : decode cX6_init 17 = .ok (.newarray .int, 2) := by decide +kernel
theorem dX6_init_19 : decode cX6_init 19 = .ok (.putfield 13, 3) := by decide +kernel
theorem dX6_init_22 : decode cX6_init 22 = .ok (.aload_n 0, 1) := by decide +kernel
theorem dX6_init_23 : decode cX6_init 23 = .ok (.bipush 8, 2) := by decide +kernel
theorem dX6_init_25 : decode cX6_init 25 = .ok (.newarray .int, 2) := by decide +kernel
theorem dX6_init_27 : decode cX6_init 27 = .ok (.putfield 16, 3) := by decide +kernel
theorem dX6_init_30 : decode cX6_init 30 = .ok (.aload_n 0, 1) := by decide +kernel
theorem dX6_init_31 : decode cX6_init 31 = .ok (.bipush 64, 2) := by decide +kernel
theorem dX6_init_33 : decode cX6_init 33 = .ok (.newarray .int, 2) := by decide +kernel
theorem dX6_init_35 : decode cX6_init 35 = .ok (.putfield 19, 3) := by decide +kernel
theorem dX6_init_38 : decode cX6_init 38 = .ok (.aload_n 0, 1) := by decide +kernel
theorem dX6_init_39 : decode cX6_init 39 = .ok (.sipush 300, 3) := by decide +kernel
theorem dX6_init_42 : decode cX6_init 42 = .ok (.newarray .int, 2) := by decide +kernel
theorem dX6_init_44 : decode cX6_init 44 = .ok (.putfield 22, 3) := by decide +kernel
theorem dX6_init_47 : decode cX6_init 47 = .ok (.aload_n 0, 1) := by decide +kernel
theorem dX6_init_48 : decode cX6_init 48 = .ok (.sipush 300, 3) := by decide +kernel
theorem dX6_init_51 : decode cX6_init 51 = .ok (.newarray .int, 2) := by decide +kernel
theorem dX6_init_53 : decode cX6_init 53 = .ok (.putfield 25, 3) := by decide +kernel
theorem dX6_init_56 : decode cX6_init 56 = .ok (.aload_n 0, 1) := by decide +kernel
theorem dX6_init_57 : decode cX6_init 57 = .ok (.sipush 300, 3) := by decide +kernel
theorem dX6_init_60 : decode cX6_init 60 = .ok (.newarray .int, 2) := by decide +kernel
theorem dX6_init_62 : decode cX6_init 62 = .ok (.putfield 28, 3) := by decide +kernel
theorem dX6_init_65 : decode cX6_init 65 = .ok (.aload_n 0, 1) := by decide +kernel
theorem dX6_init_66 : decode cX6_init 66 = .ok (.bipush 40, 2) := by decide +kernel
theorem dX6_init_68 : decode cX6_init 68 = .ok (.newarray .int, 2) := by decide +kernel
theorem dX6_init_70 : decode cX6_init 70 = .ok (.putfield 31, 3) := by decide +kernel
theorem dX6_init_73 : decode cX6_init 73 = .ok (.aload_n 0, 1) := by decide +kernel
theorem dX6_init_74 : decode cX6_init 74 = .ok (.bipush 32, 2) := by decide +kernel
theorem dX6_init_76 : decode cX6_init 76 = .ok (.newarray .boolean, 2) := by decide +kernel
theorem dX6_init_78 : decode cX6_init 78 = .ok (.putfield 34, 3) := by decide +kernel
theorem dX6_init_81 : decode cX6_init 81 = .ok (.aload_n 0, 1) := by decide +kernel
theorem dX6_init_82 : decode cX6_init 82 = .ok (.bipush 100, 2) := by decide +kernel
theorem dX6_init_84 : decode cX6_init 84 = .ok (.newarray .int, 2) := by decide +kernel
theorem dX6_init_86 : decode cX6_init 86 = .ok (.putfield 38, 3) := by decide +kernel
theorem dX6_init_89 : decode cX6_init 89 = .ok (.aload_n 0, 1) := by decide +kernel
theorem dX6_init_90 : decode cX6_init 90 = .ok (.iload_n 1, 1) := by decide +kernel
theorem dX6_init_91 : decode cX6_init 91 = .ok (.iconst 2, 1) := by decide +kernel
theorem dX6_init_92 : decode cX6_init 92 = .ok (.if_icmp .ge 7, 3) := by decide +kernel
theorem dX6_init_95 : decode cX6_init 95 = .ok (.iconst 2, 1) := by decide +kernel
theorem dX6_init_96 : decode cX6_init 96 = .ok (.goto 15, 3) := by decide +kernel
theorem dX6_init_99 : decode cX6_init 99 = .ok (.iload_n 1, 1) := by decide +kernel
theorem dX6_init_100 : decode cX6_init 100 = .ok (.bipush 64, 2) := by decide +kernel
theorem dX6_init_102 : decode cX6_init 102 = .ok (.if_icmp .le 8, 3) := by decide +kernel
theorem dX6_init_105 : decode cX6_init 105 = .ok (.bipush 64, 2) := by decide +kernel
theorem dX6_init_107 : decode cX6_init 107 = .ok (.goto 4, 3) := by decide +kernel
theorem dX6_init_110 : decode cX6_init 110 = .ok (.iload_n 1, 1) := by decide +kernel
theorem dX6_init_111 : decode cX6_init 111 = .ok (.putfield 41, 3) := by decide +kernel
theorem dX6_init_114 : decode cX6_init 114 = .ok (.return_, 1) := by decide +kernel
theorem dX6_isPlace_0 : decode cX6_isPlace 0 = .ok (.iload_n 0, 1) := by decide +kernel
theorem dX6_isPlace_1 : decode cX6_isPlace 1 = .ok (.ifCond .lt 14, 3) := by decide +kernel
theorem dX6_isPlace_4 : decode cX6_isPlace 4 = .ok (.iload_n 0, 1) := by decide +kernel
theorem dX6_isPlace_5 : decode cX6_isPlace 5 = .ok (.sipush 512, 3) := by decide +kernel
theorem dX6_isPlace_8 : decode cX6_isPlace 8 = .ok (.if_icmp .ge 7, 3) := by decide +kernel
theorem dX6_isPlace_11 : decode cX6_isPlace 11 = .ok (.iconst 1, 1) := by decide +kernel
theorem dX6_isPlace_12 : decode cX6_isPlace 12 = .ok (.goto 4, 3) := by decide +kernel
theorem dX6_isPlace_15 : decode cX6_isPlace 15 = .ok (.iconst 0, 1) := by decide +kernel
theorem dX6_isPlace_16 : decode cX6_isPlace 16 = .ok (.ireturn, 1) := by decide +kernel
set_option maxRecDepth 20000 in
theorem ggX6_poke_X6_isPlace : GoodIn wsX6_poke wsX6_isPlace := goodIn_r _ [6] (by decide +kernel) (by decide +kernel)
set_option maxRecDepth 20000 in
theorem gX6_poke_X6_isPlace : GoodIn wsX6_poke (va_wsS RX6 49 yX6_isPlace wsX6_isPlace) := goodIn_app (goodIn_of _ (by decide +kernel)) ggX6_poke_X6_isPlace
theorem dX6_poke_0 : decode cX6_poke 0 = .ok (.aload_n 0, 1) := by decide +kernel
theorem dX6_poke_1 : decode cX6_poke 1 = .ok (.getfield 45, 3) := by decide +kernel
theorem dX6_poke_4 : decode cX6_poke 4 = .ok (.ifCond .ne 10, 3) := by decide +kernel
theorem dX6_poke_7 : decode cX6_poke 7 = .ok (.iload_n 1, 1) := by decide +kernel
theorem dX6_poke_8 : decode cX6_poke 8 = .ok (.invokestatic 49, 3) := by decide +kernel
theorem dX6_poke_11 : decode cX6_poke 11 = .ok (.ifCond .ne 5, 3) := by decide +kernel
theorem dX6_poke_14 : decode cX6_poke 14 = .ok (.iconst 0, 1) := by decide +kernel
theorem dX6_poke_15 : decode cX6_poke 15 = .ok (.ireturn, 1) := by decide +kernel
theorem dX6_poke_16 : decode cX6_poke 16 = .ok (.aload_n 0, 1) := by decide +kernel
theorem dX6_poke_17 : decode cX6_poke 17 = .ok (.getfield 13, 3) := by decide +kernel
theorem dX6_poke_20 : decode cX6_poke 20 = .ok (.iload_n 1, 1) := by decide +kernel
theorem dX6_poke_21 : decode cX6_poke 21 = .ok (.iload_n 2, 1) := by decide +kernel
theorem dX6_poke_22 : decode cX6_poke 22 = .ok (.iastore, 1) := by decide +kernel
theorem dX6_poke_23 : decode cX6_poke 23 = .ok (.iconst 1, 1) := by decide +kernel
theorem dX6_poke_24 : decode cX6_poke 24 = .ok (.ireturn, 1) := by decide +kernel
theorem dX6_rewind_0 : decode cX6_rewind 0 = .ok (.iconst 0, 1) := by decide +kernel
theorem dX6_rewind_1 : decode cX6_rewind 1 = .ok (.istore_n 1, 1) := by decide +kernel
theorem dX6_rewind_2 : decode cX6_rewind 2 = .ok (.iload_n 1, 1) := by decide +kernel
theorem dX6_rewind_3 : decode cX6_rewind 3 = .ok (.sipush 512, 3) := by decide +kernel
theorem dX6_rewind_6 : decode cX6_rewind 6 = .ok (.if_icmp .ge 21, 3) := by decide +kernel
theorem dX6_rewind_9 : decode cX6_rewind 9 = .ok (.aload_n 0, 1) := by decide +kernel
theorem dX6_rewind_10 : decode cX6_rewind 10 = .ok (.getfield 13, 3) := by decide +kernel
theorem dX6_rewind_13 : decode cX6_rewind 13 = .ok (.iload_n 1, 1) := by decide +kernel
theorem dX6_rewind_14 : decode cX6_rewind 14 = .ok (.aload_n 0, 1) := by decide +kernel
theorem dX6_rewind_15 : decode cX6_rewind 15 = .ok (.getfield 7, 3) := by decide +kernel
theorem dX6_rewind_18 : decode cX6_rewind 18 = .ok (.iload_n 1, 1) := by decide +kernel
theorem dX6_rewind_19 : decode cX6_rewind 19 = .ok (.iaload, 1) := by decide +kernel
theorem dX6_rewind_20 : decode cX6_rewind 20 = .ok (.iastore, 1) := by decide +kernel
theorem dX6_rewind_21 : decode cX6_rewind 21 = .ok (.iinc 1 1, 3) := by decide +kernel
theorem dX6_rewind_24 : decode cX6_rewind 24 = .ok (.goto (-22), 3) := by decide +kernel
theorem dX6_rewind_27 : decode cX6_rewind 27 = .ok (.iconst 0, 1) := by decide +kernel
theorem dX6_rewind_28 : decode cX6_rewind 28 = .ok (.istore_n 1, 1) := by decide +kernel
theorem dX6_rewind_29 : decode cX6_rewind 29 = .ok (.iload_n 1, 1) := by decide +kernel
theorem dX6_rewind_30 : decode cX6_rewind 30 = .ok (.bipush 8, 2) := by decide +kernel
theorem dX6_rewind_32 : decode cX6_rewind 32 = .ok (.if_icmp .ge 16, 3) := by decide +kernel
theorem dX6_rewind_35 : decode cX6_rewind 35 = .ok (.aload_n 0, 1) := by decide +kernel
theorem dX6_rewind_36 : decode cX6_rewind 36 = .ok (.getfield 16, 3) := by decide +kernel
theorem dX6_rewind_39 : decode cX6_rewind 39 = .ok (.iload_n 1, 1) := by decide +kernel
theorem dX6_rewind_40 : decode cX6_rewind 40 = .ok (.iconst 0, 1) := by decide +kernel
theorem dX6_rewind_41 : decode cX6_rewind 41 = .ok (.iastore, 1) := by decide +kernel
theorem dX6_rewind_42 : decode cX6_rewind 42 = .ok (.iinc 1 1, 3) := by decide +kernel
theorem dX6_rewind_45 : decode cX6_rewind 45 = .ok (.goto (-16), 3) := by decide +kernel
theorem dX6_rewind_48 : decode cX6_rewind 48 = .ok (.iconst 0, 1) := by decide +kernel
theorem dX6_rewind_49 : decode cX6_rewind 49 = .ok (.istore_n 1, 1) := by decide +kernel
theorem dX6_rewind_50 : decode cX6_rewind 50 = .ok (.iload_n 1, 1) := by decide +kernel
theorem dX6_rewind_51 : decode cX6_rewind 51 = .ok (.bipush 32, 2) := by decide +kernel
theorem dX6_rewind_53 : decode cX6_rewind 53 = .ok (.if_icmp .ge 16, 3) := by decide +kernel
theorem dX6_rewind_56 : decode cX6_rewind 56 = .ok (.aload_n 0, 1) := by decide +kernel
theorem dX6_rewind_57 : decode cX6_rewind 57 = .ok (.getfield 34, 3) := by decide +kernel
theorem dX6_rewind_60 : decode cX6_rewind 60 = .ok (.iload_n 1, 1) := by decide +kernel
theorem dX6_rewind_61 : decode cX6_rewind 61 = .ok (.iconst 0, 1) := by decide +kernel
theorem dX6_rewind_62 : decode cX6_rewind 62 = .ok (.bastore, 1) := by decide +kernel
theorem dX6_rewind_63 : decode cX6_rewind 63 = .ok (.iinc 1 1, 3) := by decide +kernel
theorem dX6_rewind_66 : decode cX6_rewind 66 = .ok (.goto (-16), 3) := by decide +kernel
theorem dX6_rewind_69 : decode cX6_rewind 69 = .ok (.aload_n 0, 1) := by decide +kernel
theorem dX6_rewind_70 : decode cX6_rewind 70 = .ok (.iconst 0, 1) := by decide +kernel
theorem dX6_rewind_71 : decode cX6_rewind 71 = .ok (.putfield 53, 3) := by decide +kernel
theorem dX6_rewind_74 : decode cX6_rewind 74 = .ok (.aload_n 0, 1) := by decide +kernel
theorem dX6_rewind_75 : decode cX6_rewind 75 = .ok (.iconst 0, 1) := by decide +kernel
theorem dX6_rewind_76 : decode cX6_rewind 76 = .ok (.putfield 56, 3) := by decide +kernel
theorem dX6_rewind_79 : decode cX6_rewind 79 = .ok (.aload_n 0, 1) := by decide +kernel
theorem dX6_rewind_80 : decode cX6_rewind 80 = .ok (.iconst 0, 1) := by decide +kernel
theorem dX6_rewind_81 : decode cX6_rewind 81 = .ok (.putfield 59, 3) := by decide +kernel
theorem dX6_rewind_84 : decode cX6_rewind 84 = .ok (.aload_n 0, 1) := by decide +kernel
theorem dX6_rewind_85 : decode cX6_rewind 85 = .ok (.iconst 0, 1) := by decide +kernel
theorem dX6_rewind_86 : decode cX6_rewind 86 = .ok (.putfield 62, 3) := by decide +kernel
theorem dX6_rewind_89 : decode cX6_rewind 89 = .ok (.aload_n 0, 1) := by decide +kernel
theorem dX6_rewind_90 : decode cX6_rewind 90 = .ok (.iconst 0, 1) := by decide +kernel
theorem dX6_rewind_91 : decode cX6_rewind 91 = .ok (.putfield 65, 3) := by decide +kernel
theorem dX6_rewind_94 : decode cX6_rewind 94 = .ok (.aload_n 0, 1) := by decide +kernel
theorem dX6_rewind_95 : decode cX6_rewind 95 = .ok (.iconst 0, 1) := by decide +kernel
theorem dX6_rewind_96 : decode cX6_rewind 96 = .ok (.putfield 68, 3) := by decide +kernel
theorem dX6_rewind_99 : decode cX6_rewind 99 = .ok (.return_, 1) := by decide +kernel
set_option maxRecDepth 20000 in
theorem ggX6_start_X6_rewind : GoodIn wsX6_start wsX6_rewind := goodIn_r _ [14, 2, 1, 15, 16, 17, 18, 19, 20, 21, 22, 23, 24, 25, 26, 27, 28, 29, 30, 31, 32, 33, 34, 35, 36, 37, 38, 39, 40, 41, 42, 43, 44, 45] (by decide +kernel) (by decide +kernel)
set_option maxRecDepth 20000 in
theorem gX6_start_X6_rewind : GoodIn wsX6_start (wsV RX6 86 RX6 yX6_rewind wsX6_rewind) := goodIn_app (goodIn_of _ (by decide +kernel)) ggX6_start_X6_rewind
theorem dX6_start_0 : decode cX6_start 0 = .ok (.iconst 0, 1) := by decide +kernel
theorem dX6_start_1 : decode cX6_start 1 = .ok (.istore_n 1, 1) := by decide +kernel
theorem dX6_start_2 : decode cX6_start 2 = .ok (.iload_n 1, 1) := by decide +kernel
theorem dX6_start_3 : decode cX6_start 3 = .ok (.sipush 512, 3) := by decide +kernel
theorem dX6_start_6 : decode cX6_start 6 = .ok (.if_icmp .ge 21, 3) := by decide +kernel
theorem dX6_start_9 : decode cX6_start 9 = .ok (.aload_n 0, 1) := by decide +kernel
theorem dX6_start_10 : decode cX6_start 10 = .ok (.getfield 7, 3) := by decide +kernel
theorem dX6_start_13 : decode cX6_start 13 = .ok (.iload_n 1, 1) := by decide +kernel
theorem dX6_start_14 : decode cX6_start 14 = .ok (.aload_n 0, 1) := by decide +kernel
theorem dX6_start_15 : decode cX6_start 15 = .ok (.getfield 13, 3) := by decide +kernel
theorem dX6_start_18 : decode cX6_start 18 = .ok (.iload_n 1, 1) := by decide +kernel
theorem dX6_start_19 : decode cX6_start 19 = .ok (.iaload, 1) := by decide +kernel
theorem dX6_start_20 : decode cX6_start 20 = .ok (.iastore, 1) := by decide +kernel
theorem dX6_start_21 : decode cX6_start 21 = .ok (.iinc 1 1, 3) := by decide +kernel
theorem dX6_start_24 : decode cX6_start 24 = .ok (.goto (-22), 3) := by decide +kernel
theorem dX6_start_27 : decode cX6_start 27 = .ok (.aload_n 0, 1) := by decide +kernel
theorem dX6_start_28 : decode cX6_start 28 = .ok (.iconst 1, 1) := by decide +kernel
theorem dX6_start_29 : decode cX6_start 29 = .ok (.putfield 45, 3) := by decide +kernel
theorem dX6_start_32 : decode cX6_start 32 = .ok (.aload_n 0, 1) := by decide +kernel
theorem dX6_start_33 : decode cX6_start 33 = .ok (.iconst 0, 1) := by decide +kernel
theorem dX6_start_34 : decode cX6_start 34 = .ok (.putfield 71, 3) := by decide +kernel
theorem dX6_start_37 : decode cX6_start 37 = .ok (.aload_n 0, 1) := by decide +kernel
theorem dX6_start_38 : decode cX6_start 38 = .ok (.iconst 0, 1) := by decide +kernel
theorem dX6_start_39 : decode cX6_start 39 = .ok (.putfield 74, 3) := by decide +kernel
theorem dX6_start_42 : decode cX6_start 42 = .ok (.aload_n 0, 1) := by decide +kernel
theorem dX6_start_43 : decode cX6_start 43 = .ok (.iconst 1, 1) := by decide +kernel
theorem dX6_start_44 : decode cX6_start 44 = .ok (.putfield 77, 3) := by decide +kernel
theorem dX6_start_47 : decode cX6_start 47 = .ok (.aload_n 0, 1) := by decide +kernel
theorem dX6_start_48 : decode cX6_start 48 = .ok (.getfield 31, 3) := by decide +kernel
theorem dX6_start_51 : decode cX6_start 51 = .ok (.iconst 0, 1) := by decide +kernel
theorem dX6_start_52 : decode cX6_start 52 = .ok (.iconst 0, 1) := by decide +kernel
theorem dX6_start_53 : decode cX6_start 53 = .ok (.iastore, 1) := by decide +kernel
theorem dX6_start_54 : decode cX6_start 54 = .ok (.aload_n 0, 1) := by decide +kernel
theorem dX6_start_55 : decode cX6_start 55 = .ok (.iconst 0, 1) := by decide +kernel
theorem dX6_start_56 : decode cX6_start 56 = .ok (.putfield 80, 3) := by decide +kernel
theorem dX6_start_59 : decode cX6_start 59 = .ok (.aload_n 0, 1) := by decide +kernel
theorem dX6_start_60 : decode cX6_start 60 = .ok (.iconst 0, 1) := by decide +kernel
theorem dX6_start_61 : decode cX6_start 61 = .ok (.putfield 83, 3) := by decide +kernel
theorem dX6_start_64 : decode cX6_start 64 = .ok (.aload_n 0, 1) := by decide +kernel
theorem dX6_start_65 : decode cX6_start 65 = .ok (.invokevirtual 86, 3) := by decide +kernel
theorem dX6_start_68 : decode cX6_start 68 = .ok (.return_, 1) := by decide +kernel
theorem dX6_stop_0 : decode cX6_stop 0 = .ok (.aload_n 0, 1) := by decide +kernel
theorem dX6_stop_1 : decode cX6_stop 1 = .ok (.iconst 0, 1) := by decide +kernel
theorem dX6_stop_2 : decode cX6_stop 2 = .ok (.putfield 45, 3) := by decide +kernel
theorem dX6_stop_5 : decode cX6_stop 5 = .ok (.return_, 1) := by decide +kernel
theorem dX6_give_0 : decode cX6_give 0 = .ok (.aload_n 0, 1) := by decide +kernel
theorem dX6_give_1 : decode cX6_give 1 = .ok (.getfield 45, 3) := by decide +kernel
theorem dX6_give_4 : decode cX6_give 4 = .ok (.ifCond .eq 12, 3) := by decide +kernel
theorem dX6_give_7 : decode cX6_give 7 = .ok (.aload_n 0, 1) := by decide +kernel
theorem dX6_give_8 : decode cX6_give 8 = .ok (.getfield 80, 3) := by decide +kernel
theorem dX6_give_11 : decode cX6_give 11 = .ok (.bipush 100, 2) := by decide +kernel
theorem dX6_give_13 : decode cX6_give 13 = .ok (.if_icmp .ne 5, 3) := by decide +kernel
theorem dX6_give_16 : decode cX6_give 16 = .ok (.iconst (-1), 1) := by decide +kernel
theorem dX6_give_17 : decode cX6_give 17 = .ok (.ireturn, 1) := by decide +kernel
theorem dX6_give_18 : decode cX6_give 18 = .ok (.aload_n 0, 1) := by decide +kernel
theorem dX6_give_19 : decode cX6_give 19 = .ok (.getfield 38, 3) := by decide +kernel
theorem dX6_give_22 : decode cX6_give 22 = .ok (.aload_n 0, 1) := by decide +kernel
theorem dX6_give_23 : decode cX6_give 23 = .ok (.getfield 80, 3) := by decide +kernel
theorem dX6_give_26 : decode cX6_give 26 = .ok (.iload_n 1, 1) := by decide +kernel
theorem dX6_give_27 : decode cX6_give 27 = .ok (.iastore, 1) := by decide +kernel
theorem dX6_give_28 : decode cX6_give 28 = .ok (.aload_n 0, 1) := by decide +kernel
theorem dX6_give_29 : decode cX6_give 29 = .ok (.dup, 1) := by decide +kernel
theorem dX6_give_30 : decode cX6_give 30 = .ok (.getfield 80, 3) := by decide +kernel
theorem dX6_give_33 : decode cX6_give 33 = .ok (.iconst 1, 1) := by decide +kernel
theorem dX6_give_34 : decode cX6_give 34 = .ok (.iadd, 1) := by decide +kernel
theorem dX6_give_35 : decode cX6_give 35 = .ok (.putfield 80, 3) := by decide +kernel
theorem dX6_give_38 : decode cX6_give 38 = .ok (.aload_n 0, 1) := by decide +kernel
theorem dX6_give_39 : decode cX6_give 39 = .ok (.getfield 80, 3) := by decide +kernel
theorem dX6_give_42 : decode cX6_give 42 = .ok (.ireturn, 1) := by decide +kernel
theorem dX6_ring_0 : decode cX6_ring 0 = .ok (.aload_n 0, 1) := by decide +kernel
theorem dX6_ring_1 : decode cX6_ring 1 = .ok (.getfield 45, 3) := by decide +kernel
theorem dX6_ring_4 : decode cX6_ring 4 = .ok (.ifCond .eq 8, 3) := by decide +kernel
theorem dX6_ring_7 : decode cX6_ring 7 = .ok (.aload_n 0, 1) := by decide +kernel
theorem dX6_ring_8 : decode cX6_ring 8 = .ok (.iconst 1, 1) := by decide +kernel
theorem dX6_ring_9 : decode cX6_ring 9 = .ok (.putfield 83, 3) := by decide +kernel
theorem dX6_ring_12 : decode cX6_ring 12 = .ok (.aload_n 0, 1) := by decide +kernel
theorem dX6_ring_13 : decode cX6_ring 13 = .ok (.getfield 45, 3) := by decide +kernel
theorem dX6_ring_16 : decode cX6_ring 16 = .ok (.ireturn, 1) := by decide +kernel
theorem dX6_meant_0 : decode cX6_meant 0 = .ok (.aload_n 0, 1) := by decide +kernel
theorem dX6_meant_1 : decode cX6_meant 1 = .ok (.getfield 16, 3) := by decide +kernel
theorem dX6_meant_4 : decode cX6_meant 4 = .ok (.iload_n 1, 1) := by decide +kernel
theorem dX6_meant_5 : decode cX6_meant 5 = .ok (.bipush 8, 2) := by decide +kernel
theorem dX6_meant_7 : decode cX6_meant 7 = .ok (.ishr, 1) := by decide +kernel
theorem dX6_meant_8 : decode cX6_meant 8 = .ok (.bipush 7, 2) := by decide +kernel
theorem dX6_meant_10 : decode cX6_meant 10 = .ok (.iand, 1) := by decide +kernel
theorem dX6_meant_11 : decode cX6_meant 11 = .ok (.iaload, 1) := by decide +kernel
theorem dX6_meant_12 : decode cX6_meant 12 = .ok (.iload_n 1, 1) := by decide +kernel
theorem dX6_meant_13 : decode cX6_meant 13 = .ok (.i2b, 1) := by decide +kernel
theorem dX6_meant_14 : decode cX6_meant 14 = .ok (.iadd, 1) := by decide +kernel
theorem dX6_meant_15 : decode cX6_meant 15 = .ok (.sipush 511, 3) := by decide +kernel
theorem dX6_meant_18 : decode cX6_meant 18 = .ok (.iand, 1) := by decide +kernel
theorem dX6_meant_19 : decode cX6_meant 19 = .ok (.ireturn, 1) := by decide +kernel
theorem dX6_interrupt_0 : decode cX6_interrupt 0 = .ok (.aload_n 0, 1) := by decide +kernel
theorem dX6_interrupt_1 : decode cX6_interrupt 1 = .ok (.aload_n 0, 1) := by decide +kernel
theorem dX6_interrupt_2 : decode cX6_interrupt 2 = .ok (.getfield 53, 3) := by decide +kernel
theorem dX6_interrupt_5 : decode cX6_interrupt 5 = .ok (.putfield 56, 3) := by decide +kernel
theorem dX6_interrupt_8 : decode cX6_interrupt 8 = .ok (.aload_n 0, 1) := by decide +kernel
theorem dX6_interrupt_9 : decode cX6_interrupt 9 = .ok (.bipush 8, 2) := by decide +kernel
theorem dX6_interrupt_11 : decode cX6_interrupt 11 = .ok (.putfield 53, 3) := by decide +kernel
theorem dX6_interrupt_14 : decode cX6_interrupt 14 = .ok (.aload_n 0, 1) := by decide +kernel
theorem dX6_interrupt_15 : decode cX6_interrupt 15 = .ok (.iconst 0, 1) := by decide +kernel
theorem dX6_interrupt_16 : decode cX6_interrupt 16 = .ok (.putfield 59, 3) := by decide +kernel
theorem dX6_interrupt_19 : decode cX6_interrupt 19 = .ok (.return_, 1) := by decide +kernel
theorem dX6_send_0 : decode cX6_send 0 = .ok (.aload_n 0, 1) := by decide +kernel
theorem dX6_send_1 : decode cX6_send 1 = .ok (.getfield 62, 3) := by decide +kernel
theorem dX6_send_4 : decode cX6_send 4 = .ok (.bipush 64, 2) := by decide +kernel
theorem dX6_send_6 : decode cX6_send 6 = .ok (.if_icmp .ge 13, 3) := by decide +kernel
theorem dX6_send_9 : decode cX6_send 9 = .ok (.aload_n 0, 1) := by decide +kernel
theorem dX6_send_10 : decode cX6_send 10 = .ok (.getfield 19, 3) := by decide +kernel
theorem dX6_send_13 : decode cX6_send 13 = .ok (.aload_n 0, 1) := by decide +kernel
theorem dX6_send_14 : decode cX6_send 14 = .ok (.getfield 62, 3) := by decide +kernel
theorem dX6_send_17 : decode cX6_send 17 = .ok (.iload_n 1, 1) := by decide +kernel
theorem dX6_send_18 : decode cX6_send 18 = .ok (.iastore, 1) := by decide +kernel
theorem dX6_send_19 : decode cX6_send 19 = .ok (.aload_n 0, 1) := by decide +kernel
theorem dX6_send_20 : decode cX6_send 20 = .ok (.dup, 1) := by decide +kernel
theorem dX6_send_21 : decode cX6_send 21 = .ok (.getfield 62, 3) := by decide +kernel
theorem dX6_send_24 : decode cX6_send 24 = .ok (.iconst 1, 1) := by decide +kernel
theorem dX6_send_25 : decode cX6_send 25 = .ok (.iadd, 1) := by decide +kernel
theorem dX6_send_26 : decode cX6_send 26 = .ok (.putfield 62, 3) := by decide +kernel
theorem dX6_send_29 : decode cX6_send 29 = .ok (.return_, 1) := by decide +kernel
theorem dX6_write_0 : decode cX6_write 0 = .ok (.aload_n 0, 1) := by decide +kernel
theorem dX6_write_1 : decode cX6_write 1 = .ok (.getfield 13, 3) := by decide +kernel
theorem dX6_write_4 : decode cX6_write 4 = .ok (.iload_n 1, 1) := by decide +kernel
theorem dX6_write_5 : decode cX6_write 5 = .ok (.iload_n 2, 1) := by decide +kernel
theorem dX6_write_6 : decode cX6_write 6 = .ok (.iastore, 1) := by decide +kernel
theorem dX6_write_7 : decode cX6_write 7 = .ok (.aload_n 0, 1) := by decide +kernel
theorem dX6_write_8 : decode cX6_write 8 = .ok (.getfield 34, 3) := by decide +kernel
theorem dX6_write_11 : decode cX6_write 11 = .ok (.iload_n 1, 1) := by decide +kernel
theorem dX6_write_12 : decode cX6_write 12 = .ok (.bipush 16, 2) := by decide +kernel
theorem dX6_write_14 : decode cX6_write 14 = .ok (.idiv, 1) := by decide +kernel
theorem dX6_write_15 : decode cX6_write 15 = .ok (.iconst 1, 1) := by decide +kernel
theorem dX6_write_16 : decode cX6_write 16 = .ok (.bastore, 1) := by decide +kernel
theorem dX6_write_17 : decode cX6_write 17 = .ok (.return_, 1) := by decide +kernel
set_option maxRecDepth 20000 in
theorem ggX6_work_X6_meant : GoodIn wsX6_work wsX6_meant := goodIn_r _ [8, 1, 20, 21, 22, 23, 24, 25, 26, 27, 28, 29, 30, 31, 32, 33, 34, 35, 36, 37, 38, 39, 40, 41, 42] (by decide +kernel) (by decide +kernel)
set_option maxRecDepth 20000 in
theorem gX6_work_X6_meant : GoodIn wsX6_work (wsV RX6 89 RX6 yX6_meant wsX6_meant) := goodIn_app (goodIn_of _ (by decide +kernel)) ggX6_work_X6_meant
set_option maxRecDepth 20000 in
theorem ggX6_work_X6_write : GoodIn wsX6_work wsX6_write := goodIn_r _ [12, 2, 13, 20, 21, 22, 23, 24, 25, 26, 27, 28, 29, 30, 31, 32, 33, 34, 35, 36, 37, 38, 39, 40, 41, 42] (by decide +kernel) (by decide +kernel)
set_option maxRecDepth 20000 in
theorem gX6_work_X6_write : GoodIn wsX6_work (wsV RX6 93 RX6 yX6_write wsX6_write) := goodIn_app (goodIn_of _ (by decide +kernel)) ggX6_work_X6_write
set_option maxRecDepth 20000 in
theorem ggX6_work_X6_send : GoodIn wsX6_work wsX6_send := goodIn_r _ [17, 18, 19, 20, 21, 22, 23, 24, 25, 26, 27, 28, 29, 30, 31, 32, 33, 34, 35, 36, 37, 38, 39, 40, 41, 42] (by decide +kernel) (by decide +kernel)
set_option maxRecDepth 20000 in
theorem gX6_work_X6_send : GoodIn wsX6_work (wsV RX6 97 RX6 yX6_send wsX6_send) := goodIn_app (goodIn_of _ (by decide +kernel)) ggX6_work_X6_send
theorem dX6_work_0 : decode cX6_work 0 = .ok (.iload_n 1, 1) := by decide +kernel
theorem dX6_work_1 : decode cX6_work 1 = .ok (.bipush 16, 2) := by decide +kernel
theorem dX6_work_3 : decode cX6_work 3 = .ok (.ishr, 1) := by decide +kernel
theorem dX6_work_4 : decode cX6_work 4 = .ok (.bipush 7, 2) := by decide +kernel
theorem dX6_work_6 : decode cX6_work 6 = .ok (.iand, 1) := by decide +kernel
theorem dX6_work_7 : decode cX6_work 7 = .ok (.istore_n 3, 1) := by decide +kernel
theorem dX6_work_8 : decode cX6_work 8 = .ok (.aload_n 0, 1) := by decide +kernel
theorem dX6_work_9 : decode cX6_work 9 = .ok (.getfield 16, 3) := by decide +kernel
theorem dX6_work_12 : decode cX6_work 12 = .ok (.iload_n 1, 1) := by decide +kernel
theorem dX6_work_13 : decode cX6_work 13 = .ok (.bipush 8, 2) := by decide +kernel
theorem dX6_work_15 : decode cX6_work 15 = .ok (.ishr, 1) := by decide +kernel
theorem dX6_work_16 : decode cX6_work 16 = .ok (.bipush 7, 2) := by decide +kernel
theorem dX6_work_18 : decode cX6_work 18 = .ok (.iand, 1) := by decide +kernel
theorem dX6_work_19 : decode cX6_work 19 = .ok (.iaload, 1) := by decide +kernel
theorem dX6_work_20 : decode cX6_work 20 = .ok (.istore 4, 2) := by decide +kernel
theorem dX6_work_22 : decode cX6_work 22 = .ok (.aload_n 0, 1) := by decide +kernel
theorem dX6_work_23 : decode cX6_work 23 = .ok (.getfield 16, 3) := by decide +kernel
theorem dX6_work_26 : decode cX6_work 26 = .ok (.iload_n 1, 1) := by decide +kernel
theorem dX6_work_27 : decode cX6_work 27 = .ok (.bipush 7, 2) := by decide +kernel
theorem dX6_work_29 : decode cX6_work 29 = .ok (.iand, 1) := by decide +kernel
theorem dX6_work_30 : decode cX6_work 30 = .ok (.iaload, 1) := by decide +kernel
theorem dX6_work_31 : decode cX6_work 31 = .ok (.istore 5, 2) := by decide +kernel
theorem dX6_work_33 : decode cX6_work 33 = .ok (.iload_n 1, 1) := by decide +kernel
theorem dX6_work_34 : decode cX6_work 34 = .ok (.bipush 24, 2) := by decide +kernel
theorem dX6_work_36 : decode cX6_work 36 = .ok (.iushr, 1) := by decide +kernel
theorem dX6_work_37 : decode cX6_work 37 = .ok (.tableswitch 225 1 14 #[71, 85, 99, 113, 127, 141, 152, 171, 225, 225, 225, 189, 199, 212], 71) := by decide +kernel
theorem dX6_work_108 : decode cX6_work 108 = .ok (.aload_n 0, 1) := by decide +kernel
theorem dX6_work_109 : decode cX6_work 109 = .ok (.getfield 16, 3) := by decide +kernel
theorem dX6_work_112 : decode cX6_work 112 = .ok (.iload_n 3, 1) := by decide +kernel
theorem dX6_work_113 : decode cX6_work 113 = .ok (.iload 4, 2) := by decide +kernel
theorem dX6_work_115 : decode cX6_work 115 = .ok (.iload 5, 2) := by decide +kernel
theorem dX6_work_117 : decode cX6_work 117 = .ok (.iadd, 1) := by decide +kernel
theorem dX6_work_118 : decode cX6_work 118 = .ok (.iastore, 1) := by decide +kernel
theorem dX6_work_119 : decode cX6_work 119 = .ok (.goto 143, 3) := by decide +kernel
theorem dX6_work_122 : decode cX6_work 122 = .ok (.aload_n 0, 1) := by decide +kernel
theorem dX6_work_123 : decode cX6_work 123 = .ok (.getfield 16, 3) := by decide +kernel
theorem dX6_work_126 : decode cX6_work 126 = .ok (.iload_n 3, 1) := by decide +kernel
theorem dX6_work_127 : decode cX6_work 127 = .ok (.iload 4, 2) := by decide +kernel
theorem dX6_work_129 : decode cX6_work 129 = .ok (.iload 5, 2) := by decide +kernel
theorem dX6_work_131 : decode cX6_work 131 = .ok (.isub, 1) := by decide +kernel
theorem dX6_work_132 : decode cX6_work 132 = .ok (.iastore, 1) := by decide +kernel
theorem dX6_work_133 : decode cX6_work 133 = .ok (.goto 129, 3) := by decide +kernel
theorem dX6_work_136 : decode cX6_work 136 = .ok (.aload_n 0, 1) := by decide +kernel
theorem dX6_work_137 : decode cX6_work 137 = .ok (.getfield 16, 3) := by decide +kernel
theorem dX6_work_140 : decode cX6_work 140 = .ok (.iload_n 3, 1) := by decide +kernel
theorem dX6_work_141 : decode cX6_work 141 = .ok (.iload 4, 2) := by decide +kernel
theorem dX6_work_143 : decode cX6_work 143 = .ok (.iload 5, 2) := by decide +kernel
theorem dX6_work_145 : decode cX6_work 145 = .ok (.imul, 1) := by decide +kernel
theorem dX6_work_146 : decode cX6_work 146 = .ok (.iastore, 1) := by decide +kernel
theorem dX6_work_147 : decode cX6_work 147 = .ok (.goto 115, 3) := by decide +kernel
theorem dX6_work_150 : decode cX6_work 150 = .ok (.aload_n 0, 1) := by decide +kernel
theorem dX6_work_151 : decode cX6_work 151 = .ok (.getfield 16, 3) := by decide +kernel
theorem dX6_work_154 : decode cX6_work 154 = .ok (.iload_n 3, 1) := by decide +kernel
theorem dX6_work_155 : decode cX6_work 155 = .ok (.iload 4, 2) := by decide +kernel
theorem dX6_work_157 : decode cX6_work 157 = .ok (.iload 5, 2) := by decide +kernel
theorem dX6_work_159 : decode cX6_work 159 = .ok (.iand, 1) := by decide +kernel
theorem dX6_work_160 : decode cX6_work 160 = .ok (.iastore, 1) := by decide +kernel
theorem dX6_work_161 : decode cX6_work 161 = .ok (.goto 101, 3) := by decide +kernel
theorem dX6_work_164 : decode cX6_work 164 = .ok (.aload_n 0, 1) := by decide +kernel
theorem dX6_work_165 : decode cX6_work 165 = .ok (.getfield 16, 3) := by decide +kernel
theorem dX6_work_168 : decode cX6_work 168 = .ok (.iload_n 3, 1) := by decide +kernel
theorem dX6_work_169 : decode cX6_work 169 = .ok (.iload 4, 2) := by decide +kernel
theorem dX6_work_171 : decode cX6_work 171 = .ok (.iload 5, 2) := by decide +kernel
theorem dX6_work_173 : decode cX6_work 173 = .ok (.ixor, 1) := by decide +kernel
theorem dX6_work_174 : decode cX6_work 174 = .ok (.iastore, 1) := by decide +kernel
theorem dX6_work_175 : decode cX6_work 175 = .ok (.goto 87, 3) := by decide +kernel
theorem dX6_work_178 : decode cX6_work 178 = .ok (.aload_n 0, 1) := by decide +kernel
theorem dX6_work_179 : decode cX6_work 179 = .ok (.getfield 16, 3) := by decide +kernel
theorem dX6_work_182 : decode cX6_work 182 = .ok (.iload_n 3, 1) := by decide +kernel
theorem dX6_work_183 : decode cX6_work 183 = .ok (.iload_n 1, 1) := by decide +kernel
theorem dX6_work_184 : decode cX6_work 184 = .ok (.i2s, 1) := by decide +kernel
theorem dX6_work_185 : decode cX6_work 185 = .ok (.iastore, 1) := by decide +kernel
theorem dX6_work_186 : decode cX6_work 186 = .ok (.goto 76, 3) := by decide +kernel
theorem dX6_work_189 : decode cX6_work 189 = .ok (.aload_n 0, 1) := by decide +kernel
theorem dX6_work_190 : decode cX6_work 190 = .ok (.getfield 16, 3) := by decide +kernel
theorem dX6_work_193 : decode cX6_work 193 = .ok (.iload_n 3, 1) := by decide +kernel
theorem dX6_work_194 : decode cX6_work 194 = .ok (.aload_n 0, 1) := by decide +kernel
theorem dX6_work_195 : decode cX6_work 195 = .ok (.getfield 13, 3) := by decide +kernel
theorem dX6_work_198 : decode cX6_work 198 = .ok (.aload_n 0, 1) := by decide +kernel
theorem dX6_work_199 : decode cX6_work 199 = .ok (.iload_n 1, 1) := by decide +kernel
theorem dX6_work_200 : decode cX6_work 200 = .ok (.invokevirtual 89, 3) := by decide +kernel
theorem dX6_work_203 : decode cX6_work 203 = .ok (.iaload, 1) := by decide +kernel
theorem dX6_work_204 : decode cX6_work 204 = .ok (.iastore, 1) := by decide +kernel
theorem dX6_work_205 : decode cX6_work 205 = .ok (.goto 57, 3) := by decide +kernel
theorem dX6_work_208 : decode cX6_work 208 = .ok (.aload_n 0, 1) := by decide +kernel
theorem dX6_work_209 : decode cX6_work 209 = .ok (.aload_n 0, 1) := by decide +kernel
theorem dX6_work_210 : decode cX6_work 210 = .ok (.iload_n 1, 1) := by decide +kernel
theorem dX6_work_211 : decode cX6_work 211 = .ok (.invokevirtual 89, 3) := by decide +kernel
theorem dX6_work_214 : decode cX6_work 214 = .ok (.aload_n 0, 1) := by decide +kernel
theorem dX6_work_215 : decode cX6_work 215 = .ok (.getfield 16, 3) := by decide +kernel
theorem dX6_work_218 : decode cX6_work 218 = .ok (.iload_n 3, 1) := by decide +kernel
theorem dX6_work_219 : decode cX6_work 219 = .ok (.iaload, 1) := by decide +kernel
theorem dX6_work_220 : decode cX6_work 220 = .ok (.invokevirtual 93, 3) := by decide +kernel
theorem dX6_work_223 : decode cX6_work 223 = .ok (.goto 39, 3) := by decide +kernel
theorem dX6_work_226 : decode cX6_work 226 = .ok (.aload_n 0, 1) := by decide +kernel
theorem dX6_work_227 : decode cX6_work 227 = .ok (.getfield 16, 3) := by decide +kernel
theorem dX6_work_230 : decode cX6_work 230 = .ok (.iload_n 3, 1) := by decide +kernel
theorem dX6_work_231 : decode cX6_work 231 = .ok (.iload_n 2, 1) := by decide +kernel
theorem dX6_work_232 : decode cX6_work 232 = .ok (.iastore, 1) := by decide +kernel
theorem dX6_work_233 : decode cX6_work 233 = .ok (.goto 29, 3) := by decide +kernel
theorem dX6_work_236 : decode cX6_work 236 = .ok (.aload_n 0, 1) := by decide +kernel
theorem dX6_work_237 : decode cX6_work 237 = .ok (.aload_n 0, 1) := by decide +kernel
theorem dX6_work_238 : decode cX6_work 238 = .ok (.getfield 16, 3) := by decide +kernel
theorem dX6_work_241 : decode cX6_work 241 = .ok (.iload_n 3, 1) := by decide +kernel
theorem dX6_work_242 : decode cX6_work 242 = .ok (.iaload, 1) := by decide +kernel
theorem dX6_work_243 : decode cX6_work 243 = .ok (.invokevirtual 97, 3) := by decide +kernel
theorem dX6_work_246 : decode cX6_work 246 = .ok (.goto 16, 3) := by decide +kernel
theorem dX6_work_249 : decode cX6_work 249 = .ok (.aload_n 0, 1) := by decide +kernel
theorem dX6_work_250 : decode cX6_work 250 = .ok (.getfield 16, 3) := by decide +kernel
theorem dX6_work_253 : decode cX6_work 253 = .ok (.iload_n 3, 1) := by decide +kernel
theorem dX6_work_254 : decode cX6_work 254 = .ok (.aload_n 0, 1) := by decide +kernel
theorem dX6_work_255 : decode cX6_work 255 = .ok (.getfield 65, 3) := by decide +kernel
theorem dX6_work_258 : decode cX6_work 258 = .ok (.iastore, 1) := by decide +kernel
theorem dX6_work_259 : decode cX6_work 259 = .ok (.goto 3, 3) := by decide +kernel
theorem dX6_work_262 : decode cX6_work 262 = .ok (.return_, 1) := by decide +kernel
