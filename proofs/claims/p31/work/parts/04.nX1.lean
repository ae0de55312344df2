theorem dX1_init_0 : decode cX1_init 0 = .ok (.aload_n 0, 1) := by decide +kernel
theorem dX1_init_1 : decode cX1_init 1 = .ok (.invokespecial 1, 3) := by decide +kernel
theorem dX1_init_4 : decode cX1_init 4 = .ok (.aload_n 0, 1) := by decide +kernel
theorem dX1_init_5 : decode cX1_init 5 = .ok (.sipush 200, 3) := by decide +kernel
theorem dX1_init_8 : decode cX1_init 8 = .ok (.putfield 7, 3) := by decide +kernel
theorem dX1_init_11 : decode cX1_init 11 = .ok (.aload_n 0, 1) := by decide +kernel
theorem dX1_init_12 : decode cX1_init 12 = .ok (.sipush 5000, 3) := by decide +kernel
theorem dX1_init_15 : decode cX1_init 15 = .ok (.putfield 13, 3) := by decide +kernel
theorem dX1_init_18 : decode cX1_init 18 = .ok (.aload_n 0, 1) := by decide +kernel
theorem dX1_init_19 : decode cX1_init 19 = .ok (.iload_n 1, 1) := by decide +kernel
theorem dX1_init_20 : decode cX1_init 20 = .ok (.putfield 16, 3) := by decide +kernel
theorem dX1_init_23 : decode cX1_init 23 = .ok (.return_, 1) := by decide +kernel
theorem dX1_copyFrom_0 : decode cX1_copyFrom 0 = .ok (.aload_n 0, 1) := by decide +kernel
theorem dX1_copyFrom_1 : decode cX1_copyFrom 1 = .ok (.aload_n 1, 1) := by decide +kernel
theorem dX1_copyFrom_2 : decode cX1_copyFrom 2 = .ok (.getfield 16, 3) := by decide +kernel
theorem dX1_copyFrom_5 : decode cX1_copyFrom 5 = .ok (.putfield 16, 3) := by decide +kernel
theorem dX1_copyFrom_8 : decode cX1_copyFrom 8 = .ok (.aload_n 0, 1) := by decide +kernel
theorem dX1_copyFrom_9 : decode cX1_copyFrom 9 = .ok (.aload_n 1, 1) := by decide +kernel
theorem dX1_copyFrom_10 : decode cX1_copyFrom 10 = .ok (.getfield 7, 3) := by decide +kernel
theorem dX1_copyFrom_13 : decode cX1_copyFrom 13 = .ok (.putfield 7, 3) := by decide +kernel
theorem dX1_copyFrom_16 : decode cX1_copyFrom 16 = .ok (.aload_n 0, 1) := by decide +kernel
theorem dX1_copyFrom_17 : decode cX1_copyFrom 17 = .ok (.aload_n 1, 1) := by decide +kernel
theorem dX1_copyFrom_18 : decode cX1_copyFrom 18 = .ok (.getfield 13, 3) := by decide +kernel
theorem dX1_copyFrom_21 : decode cX1_copyFrom 21 = .ok (.putfield 13, 3) := by decide +kernel
theorem dX1_copyFrom_24 : decode cX1_copyFrom 24 = .ok (.aload_n 0, 1) := by decide +kernel
theorem dX1_copyFrom_25 : decode cX1_copyFrom 25 = .ok (.aload_n 1, 1) := by decide +kernel
theorem dX1_copyFrom_26 : decode cX1_copyFrom 26 = .ok (.getfield 19, 3) := by decide +kernel
theorem dX1_copyFrom_29 : decode cX1_copyFrom 29 = .ok (.putfield 19, 3) := by decide +kernel
theorem dX1_copyFrom_32 : decode cX1_copyFrom 32 = .ok (.aload_n 0, 1) := by decide +kernel
theorem dX1_copyFrom_33 : decode cX1_copyFrom 33 = .ok (.aload_n 1, 1) := by decide +kernel
theorem dX1_copyFrom_34 : decode cX1_copyFrom 34 = .ok (.getfield 23, 3) := by decide +kernel
theorem dX1_copyFrom_37 : decode cX1_copyFrom 37 = .ok (.putfield 23, 3) := by decide +kernel
theorem dX1_copyFrom_40 : decode cX1_copyFrom 40 = .ok (.aload_n 0, 1) := by decide +kernel
theorem dX1_copyFrom_41 : decode cX1_copyFrom 41 = .ok (.aload_n 1, 1) := by decide +kernel
theorem dX1_copyFrom_42 : decode cX1_copyFrom 42 = .ok (.getfield 26, 3) := by decide +kernel
theorem dX1_copyFrom_45 : decode cX1_copyFrom 45 = .ok (.putfield 26, 3) := by decide +kernel
theorem dX1_copyFrom_48 : decode cX1_copyFrom 48 = .ok (.aload_n 0, 1) := by decide +kernel
theorem dX1_copyFrom_49 : decode cX1_copyFrom 49 = .ok (.aload_n 1, 1) := by decide +kernel
theorem dX1_copyFrom_50 : decode cX1_copyFrom 50 = .ok (.getfield 29, 3) := by decide +kernel
theorem dX1_copyFrom_53 : decode cX1_copyFrom 53 = .ok (.putfield 29, 3) := by decide +kernel
theorem dX1_copyFrom_56 : decode cX1_copyFrom 56 = .ok (.aload_n 0, 1) := by decide +kernel
theorem dX1_copyFrom_57 : decode cX1_copyFrom 57 = .ok (.aload_n 1, 1) := by decide +kernel
theorem dX1_copyFrom_58 : decode cX1_copyFrom 58 = .ok (.getfield 32, 3) := by decide +kernel
theorem dX1_copyFrom_61 : decode cX1_copyFrom 61 = .ok (.putfield 32, 3) := by decide +kernel
theorem dX1_copyFrom_64 : decode cX1_copyFrom 64 = .ok (.aload_n 0, 1) := by decide +kernel
theorem dX1_copyFrom_65 : decode cX1_copyFrom 65 = .ok (.aload_n 1, 1) := by decide +kernel
theorem dX1_copyFrom_66 : decode cX1_copyFrom 66 = .ok (.getfield 35, 3) := by decide +kernel
theorem dX1_copyFrom_69 : decode cX1_copyFrom 69 = .ok (.putfield 35, 3) := by decide +kernel
theorem dX1_copyFrom_72 : decode cX1_copyFrom 72 = .ok (.aload_n 0, 1) := by decide +kernel
theorem dX1_copyFrom_73 : decode cX1_copyFrom 73 = .ok (.aload_n 1, 1) := by decide +kernel
theorem dX1_copyFrom_74 : decode cX1_copyFrom 74 = .ok (.getfield 38, 3) := by decide +kernel
theorem dX1_copyFrom_77 : decode cX1_copyFrom 77 = .ok (.putfield 38, 3) := by decide +kernel
theorem dX1_copyFrom_80 : decode cX1_copyFrom 80 = .ok (.return_, 1) := by decide +kernel
theorem dX1_canStart_0 : decode cX1_canStart 0 = .ok (.aload_n 0, 1) := by decide +kernel
theorem dX1_canStart_1 : decode cX1_canStart 1 = .ok (.getfield 19, 3) := by decide +kernel
theorem dX1_canStart_4 : decode cX1_canStart 4 = .ok (.ifCond .ne 7, 3) := by decide +kernel
theorem dX1_canStart_7 : decode cX1_canStart 7 = .ok (.iconst 1, 1) := by decide +kernel
theorem dX1_canStart_8 : decode cX1_canStart 8 = .ok (.goto 4, 3) := by decide +kernel
theorem dX1_canStart_11 : decode cX1_canStart 11 = .ok (.iconst 0, 1) := by decide +kernel
theorem dX1_canStart_12 : decode cX1_canStart 12 = .ok (.ireturn, 1) := by decide +kernel
theorem dX1_canStop_0 : decode cX1_canStop 0 = .ok (.aload_n 0, 1) := by decide +kernel
theorem dX1_canStop_1 : decode cX1_canStop 1 = .ok (.getfield 19, 3) := by decide +kernel
theorem dX1_canStop_4 : decode cX1_canStop 4 = .ok (.ifCond .eq 14, 3) := by decide +kernel
theorem dX1_canStop_7 : decode cX1_canStop 7 = .ok (.aload_n 0, 1) := by decide +kernel
theorem dX1_canStop_8 : decode cX1_canStop 8 = .ok (.getfield 23, 3) := by decide +kernel
theorem dX1_canStop_11 : decode cX1_canStop 11 = .ok (.ifCond .ne 7, 3) := by decide +kernel
theorem dX1_canStop_14 : decode cX1_canStop 14 = .ok (.iconst 1, 1) := by decide +kernel
theorem dX1_canStop_15 : decode cX1_canStop 15 = .ok (.goto 4, 3) := by decide +kernel
theorem dX1_canStop_18 : decode cX1_canStop 18 = .ok (.iconst 0, 1) := by decide +kernel
theorem dX1_canStop_19 : decode cX1_canStop 19 = .ok (.ireturn, 1) := by decide +kernel
set_option maxRecDepth 100000 in
theorem ggX1_start_X1_beginAnew : GoodIn wsX1_start wsX1_beginAnew := goodIn_r _ [6, 7, 8, 9, 10, 11, 12, 13, 14, 15, 16, 17, 18, 19] rfl (by decide +kernel)
set_option maxRecDepth 100000 in
theorem gX1_start_X1_beginAnew : GoodIn wsX1_start (wsV RX1 41 RX1 yX1_beginAnew wsX1_beginAnew) := goodIn_app (goodIn_r _ [2, 3, 4, 5] rfl (by decide +kernel)) ggX1_start_X1_beginAnew
theorem dX1_start_0 : decode cX1_start 0 = .ok (.aload_n 0, 1) := by decide +kernel
theorem dX1_start_1 : decode cX1_start 1 = .ok (.iconst 1, 1) := by decide +kernel
theorem dX1_start_2 : decode cX1_start 2 = .ok (.putfield 19, 3) := by decide +kernel
theorem dX1_start_5 : decode cX1_start 5 = .ok (.aload_n 0, 1) := by decide +kernel
theorem dX1_start_6 : decode cX1_start 6 = .ok (.invokevirtual 41, 3) := by decide +kernel
theorem dX1_start_9 : decode cX1_start 9 = .ok (.return_, 1) := by decide +kernel
set_option maxRecDepth 100000 in
theorem ggX1_stop_X1_beginAnew : GoodIn wsX1_stop wsX1_beginAnew := goodIn_r _ [6, 7, 8, 9, 10, 11, 12, 13, 14, 15, 16, 17, 18, 19] rfl (by decide +kernel)
set_option maxRecDepth 100000 in
theorem gX1_stop_X1_beginAnew : GoodIn wsX1_stop (wsV RX1 41 RX1 yX1_beginAnew wsX1_beginAnew) := goodIn_app (goodIn_r _ [2, 3, 4, 5] rfl (by decide +kernel)) ggX1_stop_X1_beginAnew
theorem dX1_stop_0 : decode cX1_stop 0 = .ok (.aload_n 0, 1) := by decide +kernel
theorem dX1_stop_1 : decode cX1_stop 1 = .ok (.iconst 0, 1) := by decide +kernel
theorem dX1_stop_2 : decode cX1_stop 2 = .ok (.putfield 19, 3) := by decide +kernel
theorem dX1_stop_5 : decode cX1_stop 5 = .ok (.aload_n 0, 1) := by decide +kernel
theorem dX1_stop_6 : decode cX1_stop 6 = .ok (.invokevirtual 41, 3) := by decide +kernel
theorem dX1_stop_9 : decode cX1_stop 9 = .ok (.return_, 1) := by decide +kernel
set_option maxRecDepth 100000 in
theorem ggX1_closeBreaker_X1_beginAnew : GoodIn wsX1_closeBreaker wsX1_beginAnew := goodIn_r _ [6, 7, 8, 9, 10, 11, 12, 13, 14, 15, 16, 17, 18, 19] rfl (by decide +kernel)
set_option maxRecDepth 100000 in
theorem gX1_closeBreaker_X1_beginAnew : GoodIn wsX1_closeBreaker (wsV RX1 41 RX1 yX1_beginAnew wsX1_beginAnew) := goodIn_app (goodIn_r _ [2, 3, 4, 5] rfl (by decide +kernel)) ggX1_closeBreaker_X1_beginAnew
theorem dX1_closeBreaker_0 : decode cX1_closeBreaker 0 = .ok (.aload_n 0, 1) := by decide +kernel
theorem dX1_closeBreaker_1 : decode cX1_closeBreaker 1 = .ok (.iconst 1, 1) := by decide +kernel
theorem dX1_closeBreaker_2 : decode cX1_closeBreaker 2 = .ok (.putfield 23, 3) := by decide +kernel
theorem dX1_closeBreaker_5 : decode cX1_closeBreaker 5 = .ok (.aload_n 0, 1) := by decide +kernel
theorem dX1_closeBreaker_6 : decode cX1_closeBreaker 6 = .ok (.invokevirtual 41, 3) := by decide +kernel
theorem dX1_closeBreaker_9 : decode cX1_closeBreaker 9 = .ok (.return_, 1) := by decide +kernel
set_option maxRecDepth 100000 in
theorem ggX1_openBreaker_X1_beginAnew : GoodIn wsX1_openBreaker wsX1_beginAnew := goodIn_r _ [6, 7, 8, 9, 10, 11, 12, 13, 14, 15, 16, 17, 18, 19] rfl (by decide +kernel)
set_option maxRecDepth 100000 in
theorem gX1_openBreaker_X1_beginAnew : GoodIn wsX1_openBreaker (wsV RX1 41 RX1 yX1_beginAnew wsX1_beginAnew) := goodIn_app (goodIn_r _ [2, 3, 4, 5] rfl (by decide +kernel)) ggX1_openBreaker_X1_beginAnew
theorem dX1_openBreaker_0 : decode cX1_openBreaker 0 = .ok (.aload_n 0, 1) := by decide +kernel
theorem dX1_openBreaker_1 : decode cX1_openBreaker 1 = .ok (.iconst 0, 1) := by decide +kernel
theorem dX1_openBreaker_2 : decode cX1_openBreaker 2 = .ok (.putfield 23, 3) := by decide +kernel
theorem dX1_openBreaker_5 : decode cX1_openBreaker 5 = .ok (.aload_n 0, 1) := by decide +kernel
theorem dX1_openBreaker_6 : decode cX1_openBreaker 6 = .ok (.invokevirtual 41, 3) := by decide +kernel
theorem dX1_openBreaker_9 : decode cX1_openBreaker 9 = .ok (.return_, 1) := by decide +kernel
theorem dX1_beginAnew_0 : decode cX1_beginAnew 0 = .ok (.aload_n 0, 1) := by decide +kernel
theorem dX1_beginAnew_1 : decode cX1_beginAnew 1 = .ok (.iconst 0, 1) := by decide +kernel
theorem dX1_beginAnew_2 : decode cX1_beginAnew 2 = .ok (.putfield 26, 3) := by decide +kernel
theorem dX1_beginAnew_5 : decode cX1_beginAnew 5 = .ok (.aload_n 0, 1) := by decide +kernel
theorem dX1_beginAnew_6 : decode cX1_beginAnew 6 = .ok (.iconst 0, 1) := by decide +kernel
theorem dX1_beginAnew_7 : decode cX1_beginAnew 7 = .ok (.putfield 29, 3) := by decide +kernel
theorem dX1_beginAnew_10 : decode cX1_beginAnew 10 = .ok (.aload_n 0, 1) := by decide +kernel
theorem dX1_beginAnew_11 : decode cX1_beginAnew 11 = .ok (.iconst 0, 1) := by decide +kernel
theorem dX1_beginAnew_12 : decode cX1_beginAnew 12 = .ok (.putfield 32, 3) := by decide +kernel
theorem dX1_beginAnew_15 : decode cX1_beginAnew 15 = .ok (.return_, 1) := by decide +kernel
theorem dX1_lamps_0 : decode cX1_lamps 0 = .ok (.aload_n 0, 1) := by decide +kernel
theorem dX1_lamps_1 : decode cX1_lamps 1 = .ok (.getfield 26, 3) := by decide +kernel
theorem dX1_lamps_4 : decode cX1_lamps 4 = .ok (.sipush 1000, 3) := by decide +kernel
theorem dX1_lamps_7 : decode cX1_lamps 7 = .ok (.aload_n 0, 1) := by decide +kernel
theorem dX1_lamps_8 : decode cX1_lamps 8 = .ok (.getfield 26, 3) := by decide +kernel
theorem dX1_lamps_11 : decode cX1_lamps 11 = .ok (.isub, 1) := by decide +kernel
theorem dX1_lamps_12 : decode cX1_lamps 12 = .ok (.invokestatic 44, 3) := by decide +kernel
theorem dX1_lamps_15 : decode cX1_lamps 15 = .ok (.ireturn, 1) := by decide +kernel
theorem dX1_gives_0 : decode cX1_gives 0 = .ok (.aload_n 0, 1) := by decide +kernel
theorem dX1_gives_1 : decode cX1_gives 1 = .ok (.getfield 23, 3) := by decide +kernel
theorem dX1_gives_4 : decode cX1_gives 4 = .ok (.ifCond .eq 10, 3) := by decide +kernel
theorem dX1_gives_7 : decode cX1_gives 7 = .ok (.aload_n 0, 1) := by decide +kernel
theorem dX1_gives_8 : decode cX1_gives 8 = .ok (.getfield 7, 3) := by decide +kernel
theorem dX1_gives_11 : decode cX1_gives 11 = .ok (.ifCond .ne 5, 3) := by decide +kernel
theorem dX1_gives_14 : decode cX1_gives 14 = .ok (.iconst 0, 1) := by decide +kernel
theorem dX1_gives_15 : decode cX1_gives 15 = .ok (.ireturn, 1) := by decide +kernel
theorem dX1_gives_16 : decode cX1_gives 16 = .ok (.aload_n 0, 1) := by decide +kernel
theorem dX1_gives_17 : decode cX1_gives 17 = .ok (.getfield 13, 3) := by decide +kernel
theorem dX1_gives_20 : decode cX1_gives 20 = .ok (.iload_n 1, 1) := by decide +kernel
theorem dX1_gives_21 : decode cX1_gives 21 = .ok (.isub, 1) := by decide +kernel
theorem dX1_gives_22 : decode cX1_gives 22 = .ok (.aload_n 0, 1) := by decide +kernel
theorem dX1_gives_23 : decode cX1_gives 23 = .ok (.getfield 16, 3) := by decide +kernel
theorem dX1_gives_26 : decode cX1_gives 26 = .ok (.imul, 1) := by decide +kernel
theorem dX1_gives_27 : decode cX1_gives 27 = .ok (.aload_n 0, 1) := by decide +kernel
theorem dX1_gives_28 : decode cX1_gives 28 = .ok (.getfield 7, 3) := by decide +kernel
theorem dX1_gives_31 : decode cX1_gives 31 = .ok (.idiv, 1) := by decide +kernel
theorem dX1_gives_32 : decode cX1_gives 32 = .ok (.ireturn, 1) := by decide +kernel
set_option maxRecDepth 100000 in
theorem ggX1_tick_J9_floorMod_7cf53 : GoodIn wsX1_tick wsJ9_floorMod_7cf53 := goodIn_r _ [12] rfl (by decide +kernel)
set_option maxRecDepth 100000 in
theorem gX1_tick_J9_floorMod_7cf53 : GoodIn wsX1_tick (va_wsS RX1 50 yJ9_floorMod_7cf53 wsJ9_floorMod_7cf53) := goodIn_app (goodIn_r _ [9, 10, 11] rfl (by decide +kernel)) ggX1_tick_J9_floorMod_7cf53
theorem dX1_tick_0 : decode cX1_tick 0 = .ok (.aload_n 0, 1) := by decide +kernel
theorem dX1_tick_1 : decode cX1_tick 1 = .ok (.dup, 1) := by decide +kernel
theorem dX1_tick_2 : decode cX1_tick 2 = .ok (.getfield 35, 3) := by decide +kernel
theorem dX1_tick_5 : decode cX1_tick 5 = .ok (.iload_n 1, 1) := by decide +kernel
theorem dX1_tick_6 : decode cX1_tick 6 = .ok (.iadd, 1) := by decide +kernel
theorem dX1_tick_7 : decode cX1_tick 7 = .ok (.putfield 35, 3) := by decide +kernel
theorem dX1_tick_10 : decode cX1_tick 10 = .ok (.aload_n 0, 1) := by decide +kernel
theorem dX1_tick_11 : decode cX1_tick 11 = .ok (.getfield 23, 3) := by decide +kernel
theorem dX1_tick_14 : decode cX1_tick 14 = .ok (.ifCond .eq 62, 3) := by decide +kernel
theorem dX1_tick_17 : decode cX1_tick 17 = .ok (.aload_n 0, 1) := by decide +kernel
theorem dX1_tick_18 : decode cX1_tick 18 = .ok (.iload_n 1, 1) := by decide +kernel
theorem dX1_tick_19 : decode cX1_tick 19 = .ok (.aload_n 0, 1) := by decide +kernel
theorem dX1_tick_20 : decode cX1_tick 20 = .ok (.getfield 16, 3) := by decide +kernel
theorem dX1_tick_23 : decode cX1_tick 23 = .ok (.aload_n 0, 1) := by decide +kernel
theorem dX1_tick_24 : decode cX1_tick 24 = .ok (.getfield 16, 3) := by decide +kernel
theorem dX1_tick_27 : decode cX1_tick 27 = .ok (.bipush 10, 2) := by decide +kernel
theorem dX1_tick_29 : decode cX1_tick 29 = .ok (.idiv, 1) := by decide +kernel
theorem dX1_tick_30 : decode cX1_tick 30 = .ok (.iadd, 1) := by decide +kernel
theorem dX1_tick_31 : decode cX1_tick 31 = .ok (.if_icmp .le 12, 3) := by decide +kernel
theorem dX1_tick_34 : decode cX1_tick 34 = .ok (.aload_n 0, 1) := by decide +kernel
theorem dX1_tick_35 : decode cX1_tick 35 = .ok (.getfield 29, 3) := by decide +kernel
theorem dX1_tick_38 : decode cX1_tick 38 = .ok (.iconst 1, 1) := by decide +kernel
theorem dX1_tick_39 : decode cX1_tick 39 = .ok (.iadd, 1) := by decide +kernel
theorem dX1_tick_40 : decode cX1_tick 40 = .ok (.goto 4, 3) := by decide +kernel
theorem dX1_tick_43 : decode cX1_tick 43 = .ok (.iconst 0, 1) := by decide +kernel
theorem dX1_tick_44 : decode cX1_tick 44 = .ok (.putfield 29, 3) := by decide +kernel
theorem dX1_tick_47 : decode cX1_tick 47 = .ok (.aload_n 0, 1) := by decide +kernel
theorem dX1_tick_48 : decode cX1_tick 48 = .ok (.iload_n 1, 1) := by decide +kernel
theorem dX1_tick_49 : decode cX1_tick 49 = .ok (.aload_n 0, 1) := by decide +kernel
theorem dX1_tick_50 : decode cX1_tick 50 = .ok (.getfield 16, 3) := by decide +kernel
theorem dX1_tick_53 : decode cX1_tick 53 = .ok (.bipush 20, 2) := by decide +kernel
theorem dX1_tick_55 : decode cX1_tick 55 = .ok (.idiv, 1) := by decide +kernel
theorem dX1_tick_56 : decode cX1_tick 56 = .ok (.ineg, 1) := by decide +kernel
theorem dX1_tick_57 : decode cX1_tick 57 = .ok (.if_icmp .ge 12, 3) := by decide +kernel
theorem dX1_tick_60 : decode cX1_tick 60 = .ok (.aload_n 0, 1) := by decide +kernel
theorem dX1_tick_61 : decode cX1_tick 61 = .ok (.getfield 32, 3) := by decide +kernel
theorem dX1_tick_64 : decode cX1_tick 64 = .ok (.iconst 1, 1) := by decide +kernel
theorem dX1_tick_65 : decode cX1_tick 65 = .ok (.iadd, 1) := by decide +kernel
theorem dX1_tick_66 : decode cX1_tick 66 = .ok (.goto 4, 3) := by decide +kernel
theorem dX1_tick_69 : decode cX1_tick 69 = .ok (.iconst 0, 1) := by decide +kernel
theorem dX1_tick_70 : decode cX1_tick 70 = .ok (.putfield 32, 3) := by decide +kernel
theorem dX1_tick_73 : decode cX1_tick 73 = .ok (.goto 35, 3) := by decide +kernel
theorem dX1_tick_76 : decode cX1_tick 76 = .ok (.aload_n 0, 1) := by decide +kernel
theorem dX1_tick_77 : decode cX1_tick 77 = .ok (.getfield 19, 3) := by decide +kernel
theorem dX1_tick_80 : decode cX1_tick 80 = .ok (.ifCond .eq 28, 3) := by decide +kernel
theorem dX1_tick_83 : decode cX1_tick 83 = .ok (.iload_n 2, 1) := by decide +kernel
theorem dX1_tick_84 : decode cX1_tick 84 = .ok (.ifCond .le 24, 3) := by decide +kernel
theorem dX1_tick_87 : decode cX1_tick 87 = .ok (.aload_n 0, 1) := by decide +kernel
theorem dX1_tick_88 : decode cX1_tick 88 = .ok (.aload_n 0, 1) := by decide +kernel
theorem dX1_tick_89 : decode cX1_tick 89 = .ok (.getfield 26, 3) := by decide +kernel
theorem dX1_tick_92 : decode cX1_tick 92 = .ok (.aload_n 0, 1) := by decide +kernel
theorem dX1_tick_93 : decode cX1_tick 93 = .ok (.getfield 13, 3) := by decide +kernel
theorem dX1_tick_96 : decode cX1_tick 96 = .ok (.iadd, 1) := by decide +kernel
theorem dX1_tick_97 : decode cX1_tick 97 = .ok (.iload_n 2, 1) := by decide +kernel
theorem dX1_tick_98 : decode cX1_tick 98 = .ok (.isub, 1) := by decide +kernel
theorem dX1_tick_99 : decode cX1_tick 99 = .ok (.sipush 1000, 3) := by decide +kernel
theorem dX1_tick_102 : decode cX1_tick 102 = .ok (.invokestatic 50, 3) := by decide +kernel
theorem dX1_tick_105 : decode cX1_tick 105 = .ok (.putfield 26, 3) := by decide +kernel
theorem dX1_tick_108 : decode cX1_tick 108 = .ok (.return_, 1) := by decide +kernel
theorem dX5_oneIf_0 : decode cX5_oneIf 0 = .ok (.iload_n 0, 1) := by decide +kernel
theorem dX5_oneIf_1 : decode cX5_oneIf 1 = .ok (.ifCond .eq 7, 3) := by decide +kernel
theorem dX5_oneIf_4 : decode cX5_oneIf 4 = .ok (.iconst 1, 1) := by decide +kernel
theorem dX5_oneIf_5 : decode cX5_oneIf 5 = .ok (.goto 4, 3) := by decide +kernel
theorem dX5_oneIf_8 : decode cX5_oneIf 8 = .ok (.iconst 0, 1) := by decide +kernel
theorem dX5_oneIf_9 : decode cX5_oneIf 9 = .ok (.ireturn, 1) := by decide +kernel
theorem dJ9_floorMod_7cf53_0 : decode cJ9_floorMod_7cf53 0 = .ok (.iload_n 0, 1) := by decide +kernel
theorem dJ9_floorMod_7cf53_1 : decode cJ9_floorMod_7cf53 1 = .ok (.iload_n 1, 1) := by decide +kernel
theorem dJ9_floorMod_7cf53_2 : decode cJ9_floorMod_7cf53 2 = .ok (.irem, 1) := by decide +kernel
theorem dJ9_floorMod_7cf53_3 : decode cJ9_floorMod_7cf53 3 = .ok (.istore_n 2, 1) := by decide +kernel
theorem dJ9_floorMod_7cf53_4 : decode cJ9_floorMod_7cf53 4 = .ok (.iload_n 0, 1) := by decide +kernel
theorem dJ9_floorMod_7cf53_5 : decode cJ9_floorMod_7cf53 5 = .ok (.iload_n 1, 1) := by decide +kernel
theorem dJ9_floorMod_7cf53_6 : decode cJ9_floorMod_7cf53 6 = .ok (.ixor, 1) := by decide +kernel
theorem dJ9_floorMod_7cf53_7 : decode cJ9_floorMod_7cf53 7 = .ok (.ifCond .ge 11, 3) := by decide +kernel
theorem dJ9_floorMod_7cf53_10 : decode cJ9_floorMod_7cf53 10 = .ok (.iload_n 2, 1) := by decide +kernel
theorem dJ9_floorMod_7cf53_11 : decode cJ9_floorMod_7cf53 11 = .ok (.ifCond .eq 7, 3) := by decide +kernel
theorem dJ9_floorMod_7cf53_14 : decode cJ9_floorMod_7cf53 14 = .ok (.iload_n 2, 1) := by decide +kernel
theorem dJ9_floorMod_7cf53_15 : decode cJ9_floorMod_7cf53 15 = .ok (.iload_n 1, 1) := by decide +kernel
theorem dJ9_floorMod_7cf53_16 : decode cJ9_floorMod_7cf53 16 = .ok (.iadd, 1) := by decide +kernel
theorem dJ9_floorMod_7cf53_17 : decode cJ9_floorMod_7cf53 17 = .ok (.ireturn, 1) := by decide +kernel
theorem dJ9_floorMod_7cf53_18 : decode cJ9_floorMod_7cf53 18 = .ok (.iload_n 2, 1) := by decide +kernel
theorem dJ9_floorMod_7cf53_19 : decode cJ9_floorMod_7cf53 19 = .ok (.ireturn, 1) := by decide +kernel
theorem dJ9_abs_0f7a4_0 : decode cJ9_abs_0f7a4 0 = .ok (.iload_n 0, 1) := by decide +kernel
theorem dJ9_abs_0f7a4_1 : decode cJ9_abs_0f7a4 1 = .ok (.ifCond .ge 8, 3) := by decide +kernel
theorem dJ9_abs_0f7a4_4 : decode cJ9_abs_0f7a4 4 = .ok (.iload_n 0, 1) := by decide +kernel
theorem dJ9_abs_0f7a4_5 : decode cJ9_abs_0f7a4 5 = .ok (.ineg, 1) := by decide +kernel
theorem dJ9_abs_0f7a4_6 : decode cJ9_abs_0f7a4 6 = .ok (.goto 4, 3) := by decide +kernel
theorem dJ9_abs_0f7a4_9 : decode cJ9_abs_0f7a4 9 = .ok (.iload_n 0, 1) := by decide +kernel
theorem dJ9_abs_0f7a4_10 : decode cJ9_abs_0f7a4 10 = .ok (.ireturn, 1) := by decide +kernel
theorem dJ9_max_7cf53_0 : decode cJ9_max_7cf53 0 = .ok (.iload_n 0, 1) := by decide +kernel
theorem dJ9_max_7cf53_1 : decode cJ9_max_7cf53 1 = .ok (.iload_n 1, 1) := by decide +kernel
theorem dJ9_max_7cf53_2 : decode cJ9_max_7cf53 2 = .ok (.if_icmp .lt 7, 3) := by decide +kernel
theorem dJ9_max_7cf53_5 : decode cJ9_max_7cf53 5 = .ok (.iload_n 0, 1) := by decide +kernel
theorem dJ9_max_7cf53_6 : decode cJ9_max_7cf53 6 = .ok (.goto 4, 3) := by decide +kernel
theorem dJ9_max_7cf53_9 : decode cJ9_max_7cf53 9 = .ok (.iload_n 1, 1) := by decide +kernel
theorem dJ9_max_7cf53_10 : decode cJ9_max_7cf53 10 = .ok (.ireturn, 1) := by decide +kernel
theorem dJ9_min_7cf53_0 : decode cJ9_min_7cf53 0 = .ok (.iload_n 0, 1) := by decide +kernel
theorem dJ9_min_7cf53_1 : decode cJ9_min_7cf53 1 = .ok (.iload_n 1, 1) := by decide +kernel
theorem dJ9_min_7cf53_2 : decode cJ9_min_7cf53 2 = .ok (.if_icmp .gt 7, 3) := by decide +kernel
theorem dJ9_min_7cf53_5 : decode cJ9_min_7cf53 5 = .ok (.iload_n 0, 1) := by decide +kernel
theorem dJ9_min_7cf53_6 : decode cJ9_min_7cf53 6 = .ok (.goto 4, 3) := by decide +kernel
theorem dJ9_min_7cf53_9 : decode cJ9_min_7cf53 9 = .ok (.iload_n 1, 1) := by decide +kernel
theorem dJ9_min_7cf53_10 : decode cJ9_min_7cf53 10 = .ok (.ireturn, 1) := by decide +kernel
