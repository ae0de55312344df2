set_option maxRecDepth 100000 in
theorem ggX0_init_X1_init : GoodIn wsX0_init wsX1_init := goodIn_r _ [16, 17, 2, 3, 18, 19, 20, 30, 31, 32, 33, 34, 35, 36, 37, 38, 39] rfl (by decide +kernel)
set_option maxRecDepth 100000 in
theorem gX0_init_X1_init : GoodIn wsX0_init (wsX1_init) := ggX0_init_X1_init
set_option maxRecDepth 100000 in
theorem ggX0_init_X2_init : GoodIn wsX0_init wsX2_init := goodIn_r _ [22, 23, 2, 3, 24, 40, 41, 42] rfl (by decide +kernel)
set_option maxRecDepth 100000 in
theorem gX0_init_X2_init_n30 : GoodIn wsX0_init (wsX2_init) := ggX0_init_X2_init
theorem dX0_init_0 : decode cX0_init 0 = .ok (.aload_n 0, 1) := by decide +kernel
theorem dX0_init_1 : decode cX0_init 1 = .ok (.invokespecial 3, 3) := by decide +kernel
theorem dX0_init_4 : decode cX0_init 4 = .ok (.aload_n 0, 1) := by decide +kernel
theorem dX0_init_5 : decode cX0_init 5 = .ok (.iconst 3, 1) := by decide +kernel
theorem dX0_init_6 : decode cX0_init 6 = .ok (.anewarray 9, 3) := by decide +kernel
theorem dX0_init_9 : decode cX0_init 9 = .ok (.putfield 11, 3) := by decide +kernel
theorem dX0_init_12 : decode cX0_init 12 = .ok (.aload_n 0, 1) := by decide +kernel
theorem dX0_init_13 : decode cX0_init 13 = .ok (.iconst 4, 1) := by decide +kernel
theorem dX0_init_14 : decode cX0_init 14 = .ok (.anewarray 17, 3) := by decide +kernel
theorem dX0_init_17 : decode cX0_init 17 = .ok (.putfield 19, 3) := by decide +kernel
theorem dX0_init_20 : decode cX0_init 20 = .ok (.aload_n 0, 1) := by decide +kernel
theorem dX0_init_21 : decode cX0_init 21 = .ok (.iconst 4, 1) := by decide +kernel
theorem dX0_init_22 : decode cX0_init 22 = .ok (.newarray .int, 2) := by decide +kernel
theorem dX0_init_24 : decode cX0_init 24 = .ok (.dup, 1) := by decide +kernel
theorem dX0_init_25 : decode cX0_init 25 = .ok (.iconst 0, 1) := by decide +kernel
theorem dX0_init_26 : decode cX0_init 26 = .ok (.iconst 3, 1) := by decide +kernel
theorem dX0_init_27 : decode cX0_init 27 = .ok (.iastore, 1) := by decide +kernel
theorem dX0_init_28 : decode cX0_init 28 = .ok (.dup, 1) := by decide +kernel
theorem dX0_init_29 : decode cX0_init 29 = .ok (.iconst 1, 1) := by decide +kernel
theorem dX0_init_30 : decode cX0_init 30 = .ok (.iconst 2, 1) := by decide +kernel
theorem dX0_init_31 : decode cX0_init 31 = .ok (.iastore, 1) := by decide +kernel
theorem dX0_init_32 : decode cX0_init 32 = .ok (.dup, 1) := by decide +kernel
theorem dX0_init_33 : decode cX0_init 33 = .ok (.iconst 2, 1) := by decide +kernel
theorem dX0_init_34 : decode cX0_init 34 = .ok (.bipush 10, 2) := by decide +kernel
theorem dX0_init_36 : decode cX0_init 36 = .ok (.iastore, 1) := by decide +kernel
theorem dX0_init_37 : decode cX0_init 37 = .ok (.dup, 1) := by decide +kernel
theorem dX0_init_38 : decode cX0_init 38 = .ok (.iconst 3, 1) := by decide +kernel
theorem dX0_init_39 : decode cX0_init 39 = .ok (.bipush 30, 2) := by decide +kernel
theorem dX0_init_41 : decode cX0_init 41 = .ok (.iastore, 1) := by decide +kernel
theorem dX0_init_42 : decode cX0_init 42 = .ok (.putfield 23, 3) := by decide +kernel
theorem dX0_init_45 : decode cX0_init 45 = .ok (.iconst 0, 1) := by decide +kernel
theorem dX0_init_46 : decode cX0_init 46 = .ok (.istore_n 1, 1) := by decide +kernel
theorem dX0_init_47 : decode cX0_init 47 = .ok (.iload_n 1, 1) := by decide +kernel
theorem dX0_init_48 : decode cX0_init 48 = .ok (.aload_n 0, 1) := by decide +kernel
theorem dX0_init_49 : decode cX0_init 49 = .ok (.getfield 11, 3) := by decide +kernel
theorem dX0_init_52 : decode cX0_init 52 = .ok (.arraylength, 1) := by decide +kernel
theorem dX0_init_53 : decode cX0_init 53 = .ok (.if_icmp .ge 30, 3) := by decide +kernel
theorem dX0_init_56 : decode cX0_init 56 = .ok (.aload_n 0, 1) := by decide +kernel
theorem dX0_init_57 : decode cX0_init 57 = .ok (.getfield 11, 3) := by decide +kernel
theorem dX0_init_60 : decode cX0_init 60 = .ok (.iload_n 1, 1) := by decide +kernel
theorem dX0_init_61 : decode cX0_init 61 = .ok (.new 9, 3) := by decide +kernel
theorem dX0_init_64 : decode cX0_init 64 = .ok (.dup, 1) := by decide +kernel
theorem dX0_init_65 : decode cX0_init 65 = .ok (.sipush 200, 3) := by decide +kernel
theorem dX0_init_68 : decode cX0_init 68 = .ok (.bipush 100, 2) := by decide +kernel
theorem dX0_init_70 : decode cX0_init 70 = .ok (.iload_n 1, 1) := by decide +kernel
theorem dX0_init_71 : decode cX0_init 71 = .ok (.imul, 1) := by decide +kernel
theorem dX0_init_72 : decode cX0_init 72 = .ok (.iadd, 1) := by decide +kernel
theorem dX0_init_73 : decode cX0_init 73 = .ok (.invokespecial 27, 3) := by decide +kernel
theorem dX0_init_76 : decode cX0_init 76 = .ok (.aastore, 1) := by decide +kernel
theorem dX0_init_77 : decode cX0_init 77 = .ok (.iinc 1 1, 3) := by decide +kernel
theorem dX0_init_80 : decode cX0_init 80 = .ok (.goto (-33), 3) := by decide +kernel
theorem dX0_init_83 : decode cX0_init 83 = .ok (.iconst 0, 1) := by decide +kernel
theorem dX0_init_84 : decode cX0_init 84 = .ok (.istore_n 1, 1) := by decide +kernel
theorem dX0_init_85 : decode cX0_init 85 = .ok (.iload_n 1, 1) := by decide +kernel
theorem dX0_init_86 : decode cX0_init 86 = .ok (.aload_n 0, 1) := by decide +kernel
theorem dX0_init_87 : decode cX0_init 87 = .ok (.getfield 19, 3) := by decide +kernel
theorem dX0_init_90 : decode cX0_init 90 = .ok (.arraylength, 1) := by decide +kernel
theorem dX0_init_91 : decode cX0_init 91 = .ok (.if_icmp .ge 22, 3) := by decide +kernel
theorem dX0_init_94 : decode cX0_init 94 = .ok (.aload_n 0, 1) := by decide +kernel
theorem dX0_init_95 : decode cX0_init 95 = .ok (.getfield 19, 3) := by decide +kernel
theorem dX0_init_98 : decode cX0_init 98 = .ok (.iload_n 1, 1) := by decide +kernel
theorem dX0_init_99 : decode cX0_init 99 = .ok (.new 17, 3) := by decide +kernel
theorem dX0_init_102 : decode cX0_init 102 = .ok (.dup, 1) := by decide +kernel
theorem dX0_init_103 : decode cX0_init 103 = .ok (.invokespecial 30, 3) := by decide +kernel
theorem dX0_init_106 : decode cX0_init 106 = .ok (.aastore, 1) := by decide +kernel
theorem dX0_init_107 : decode cX0_init 107 = .ok (.iinc 1 1, 3) := by decide +kernel
theorem dX0_init_110 : decode cX0_init 110 = .ok (.goto (-25), 3) := by decide +kernel
theorem dX0_init_113 : decode cX0_init 113 = .ok (.return_, 1) := by decide +kernel
set_option maxRecDepth 100000 in
theorem ggX0_copyFrom_X1_copyFrom : GoodIn wsX0_copyFrom wsX1_copyFrom := goodIn_r _ [10, 11, 12, 13, 14, 15, 16, 17, 18, 19, 20, 34, 35, 36, 37, 38, 39, 40, 41, 42, 43] rfl (by decide +kernel)
set_option maxRecDepth 100000 in
theorem gX0_copyFrom_X1_copyFrom : GoodIn wsX0_copyFrom (wsV RX0 31 RX1 yX1_copyFrom wsX1_copyFrom) := goodIn_app (goodIn_r _ [6, 7, 8, 9] rfl (by decide +kernel)) ggX0_copyFrom_X1_copyFrom
set_option maxRecDepth 100000 in
theorem ggX0_copyFrom_X2_copyFrom : GoodIn wsX0_copyFrom wsX2_copyFrom := goodIn_r _ [25, 26, 27, 28, 44, 45, 46] rfl (by decide +kernel)
set_option maxRecDepth 100000 in
theorem gX0_copyFrom_X2_copyFrom : GoodIn wsX0_copyFrom (wsV RX0 35 RX2 yX2_copyFrom wsX2_copyFrom) := goodIn_app (goodIn_r _ [21, 22, 23, 24] rfl (by decide +kernel)) ggX0_copyFrom_X2_copyFrom
theorem dX0_copyFrom_0 : decode cX0_copyFrom 0 = .ok (.iconst 0, 1) := by decide +kernel
theorem dX0_copyFrom_1 : decode cX0_copyFrom 1 = .ok (.istore_n 2, 1) := by decide +kernel
theorem dX0_copyFrom_2 : decode cX0_copyFrom 2 = .ok (.iload_n 2, 1) := by decide +kernel
theorem dX0_copyFrom_3 : decode cX0_copyFrom 3 = .ok (.iconst 3, 1) := by decide +kernel
theorem dX0_copyFrom_4 : decode cX0_copyFrom 4 = .ok (.if_icmp .ge 24, 3) := by decide +kernel
theorem dX0_copyFrom_7 : decode cX0_copyFrom 7 = .ok (.aload_n 0, 1) := by decide +kernel
theorem dX0_copyFrom_8 : decode cX0_copyFrom 8 = .ok (.getfield 11, 3) := by decide +kernel
theorem dX0_copyFrom_11 : decode cX0_copyFrom 11 = .ok (.iload_n 2, 1) := by decide +kernel
theorem dX0_copyFrom_12 : decode cX0_copyFrom 12 = .ok (.aaload, 1) := by decide +kernel
theorem dX0_copyFrom_13 : decode cX0_copyFrom 13 = .ok (.aload_n 1, 1) := by decide +kernel
theorem dX0_copyFrom_14 : decode cX0_copyFrom 14 = .ok (.getfield 11, 3) := by decide +kernel
theorem dX0_copyFrom_17 : decode cX0_copyFrom 17 = .ok (.iload_n 2, 1) := by decide +kernel
theorem dX0_copyFrom_18 : decode cX0_copyFrom 18 = .ok (.aaload, 1) := by decide +kernel
theorem dX0_copyFrom_19 : decode cX0_copyFrom 19 = .ok (.invokevirtual 31, 3) := by decide +kernel
theorem dX0_copyFrom_22 : decode cX0_copyFrom 22 = .ok (.iinc 2 1, 3) := by decide +kernel
theorem dX0_copyFrom_25 : decode cX0_copyFrom 25 = .ok (.goto (-23), 3) := by decide +kernel
theorem dX0_copyFrom_28 : decode cX0_copyFrom 28 = .ok (.iconst 0, 1) := by decide +kernel
theorem dX0_copyFrom_29 : decode cX0_copyFrom 29 = .ok (.istore_n 2, 1) := by decide +kernel
theorem dX0_copyFrom_30 : decode cX0_copyFrom 30 = .ok (.iload_n 2, 1) := by decide +kernel
theorem dX0_copyFrom_31 : decode cX0_copyFrom 31 = .ok (.iconst 4, 1) := by decide +kernel
theorem dX0_copyFrom_32 : decode cX0_copyFrom 32 = .ok (.if_icmp .ge 24, 3) := by decide +kernel
theorem dX0_copyFrom_35 : decode cX0_copyFrom 35 = .ok (.aload_n 0, 1) := by decide +kernel
theorem dX0_copyFrom_36 : decode cX0_copyFrom 36 = .ok (.getfield 19, 3) := by decide +kernel
theorem dX0_copyFrom_39 : decode cX0_copyFrom 39 = .ok (.iload_n 2, 1) := by decide +kernel
theorem dX0_copyFrom_40 : decode cX0_copyFrom 40 = .ok (.aaload, 1) := by decide +kernel
theorem dX0_copyFrom_41 : decode cX0_copyFrom 41 = .ok (.aload_n 1, 1) := by decide +kernel
theorem dX0_copyFrom_42 : decode cX0_copyFrom 42 = .ok (.getfield 19, 3) := by decide +kernel
theorem dX0_copyFrom_45 : decode cX0_copyFrom 45 = .ok (.iload_n 2, 1) := by decide +kernel
theorem dX0_copyFrom_46 : decode cX0_copyFrom 46 = .ok (.aaload, 1) := by decide +kernel
theorem dX0_copyFrom_47 : decode cX0_copyFrom 47 = .ok (.invokevirtual 35, 3) := by decide +kernel
theorem dX0_copyFrom_50 : decode cX0_copyFrom 50 = .ok (.iinc 2 1, 3) := by decide +kernel
theorem dX0_copyFrom_53 : decode cX0_copyFrom 53 = .ok (.goto (-23), 3) := by decide +kernel
theorem dX0_copyFrom_56 : decode cX0_copyFrom 56 = .ok (.iconst 0, 1) := by decide +kernel
theorem dX0_copyFrom_57 : decode cX0_copyFrom 57 = .ok (.istore_n 2, 1) := by decide +kernel
theorem dX0_copyFrom_58 : decode cX0_copyFrom 58 = .ok (.iload_n 2, 1) := by decide +kernel
theorem dX0_copyFrom_59 : decode cX0_copyFrom 59 = .ok (.iconst 4, 1) := by decide +kernel
theorem dX0_copyFrom_60 : decode cX0_copyFrom 60 = .ok (.if_icmp .ge 21, 3) := by decide +kernel
theorem dX0_copyFrom_63 : decode cX0_copyFrom 63 = .ok (.aload_n 0, 1) := by decide +kernel
theorem dX0_copyFrom_64 : decode cX0_copyFrom 64 = .ok (.getfield 23, 3) := by decide +kernel
theorem dX0_copyFrom_67 : decode cX0_copyFrom 67 = .ok (.iload_n 2, 1) := by decide +kernel
theorem dX0_copyFrom_68 : decode cX0_copyFrom 68 = .ok (.aload_n 1, 1) := by decide +kernel
theorem dX0_copyFrom_69 : decode cX0_copyFrom 69 = .ok (.getfield 23, 3) := by decide +kernel
theorem dX0_copyFrom_72 : decode cX0_copyFrom 72 = .ok (.iload_n 2, 1) := by decide +kernel
theorem dX0_copyFrom_73 : decode cX0_copyFrom 73 = .ok (.iaload, 1) := by decide +kernel
theorem dX0_copyFrom_74 : decode cX0_copyFrom 74 = .ok (.iastore, 1) := by decide +kernel
theorem dX0_copyFrom_75 : decode cX0_copyFrom 75 = .ok (.iinc 2 1, 3) := by decide +kernel
theorem dX0_copyFrom_78 : decode cX0_copyFrom 78 = .ok (.goto (-20), 3) := by decide +kernel
theorem dX0_copyFrom_81 : decode cX0_copyFrom 81 = .ok (.aload_n 0, 1) := by decide +kernel
theorem dX0_copyFrom_82 : decode cX0_copyFrom 82 = .ok (.aload_n 1, 1) := by decide +kernel
theorem dX0_copyFrom_83 : decode cX0_copyFrom 83 = .ok (.getfield 38, 3) := by decide +kernel
theorem dX0_copyFrom_86 : decode cX0_copyFrom 86 = .ok (.putfield 38, 3) := by decide +kernel
theorem dX0_copyFrom_89 : decode cX0_copyFrom 89 = .ok (.aload_n 0, 1) := by decide +kernel
theorem dX0_copyFrom_90 : decode cX0_copyFrom 90 = .ok (.aload_n 1, 1) := by decide +kernel
theorem dX0_copyFrom_91 : decode cX0_copyFrom 91 = .ok (.getfield 42, 3) := by decide +kernel
theorem dX0_copyFrom_94 : decode cX0_copyFrom 94 = .ok (.putfield 42, 3) := by decide +kernel
theorem dX0_copyFrom_97 : decode cX0_copyFrom 97 = .ok (.return_, 1) := by decide +kernel
theorem dX0_alive_0 : decode cX0_alive 0 = .ok (.iconst 0, 1) := by decide +kernel
theorem dX0_alive_1 : decode cX0_alive 1 = .ok (.istore_n 1, 1) := by decide +kernel
theorem dX0_alive_2 : decode cX0_alive 2 = .ok (.iload_n 1, 1) := by decide +kernel
theorem dX0_alive_3 : decode cX0_alive 3 = .ok (.aload_n 0, 1) := by decide +kernel
theorem dX0_alive_4 : decode cX0_alive 4 = .ok (.getfield 11, 3) := by decide +kernel
theorem dX0_alive_7 : decode cX0_alive 7 = .ok (.arraylength, 1) := by decide +kernel
theorem dX0_alive_8 : decode cX0_alive 8 = .ok (.if_icmp .ge 23, 3) := by decide +kernel
theorem dX0_alive_11 : decode cX0_alive 11 = .ok (.aload_n 0, 1) := by decide +kernel
theorem dX0_alive_12 : decode cX0_alive 12 = .ok (.getfield 11, 3) := by decide +kernel
theorem dX0_alive_15 : decode cX0_alive 15 = .ok (.iload_n 1, 1) := by decide +kernel
theorem dX0_alive_16 : decode cX0_alive 16 = .ok (.aaload, 1) := by decide +kernel
theorem dX0_alive_17 : decode cX0_alive 17 = .ok (.getfield 45, 3) := by decide +kernel
theorem dX0_alive_20 : decode cX0_alive 20 = .ok (.ifCond .eq 5, 3) := by decide +kernel
theorem dX0_alive_23 : decode cX0_alive 23 = .ok (.iconst 1, 1) := by decide +kernel
theorem dX0_alive_24 : decode cX0_alive 24 = .ok (.ireturn, 1) := by decide +kernel
theorem dX0_alive_25 : decode cX0_alive 25 = .ok (.iinc 1 1, 3) := by decide +kernel
theorem dX0_alive_28 : decode cX0_alive 28 = .ok (.goto (-26), 3) := by decide +kernel
theorem dX0_alive_31 : decode cX0_alive 31 = .ok (.iconst 0, 1) := by decide +kernel
theorem dX0_alive_32 : decode cX0_alive 32 = .ok (.ireturn, 1) := by decide +kernel
theorem dX0_lowestClosed_0 : decode cX0_lowestClosed 0 = .ok (.iconst 0, 1) := by decide +kernel
theorem dX0_lowestClosed_1 : decode cX0_lowestClosed 1 = .ok (.istore_n 1, 1) := by decide +kernel
theorem dX0_lowestClosed_2 : decode cX0_lowestClosed 2 = .ok (.iload_n 1, 1) := by decide +kernel
theorem dX0_lowestClosed_3 : decode cX0_lowestClosed 3 = .ok (.aload_n 0, 1) := by decide +kernel
theorem dX0_lowestClosed_4 : decode cX0_lowestClosed 4 = .ok (.getfield 11, 3) := by decide +kernel
theorem dX0_lowestClosed_7 : decode cX0_lowestClosed 7 = .ok (.arraylength, 1) := by decide +kernel
theorem dX0_lowestClosed_8 : decode cX0_lowestClosed 8 = .ok (.if_icmp .ge 23, 3) := by decide +kernel
theorem dX0_lowestClosed_11 : decode cX0_lowestClosed 11 = .ok (.aload_n 0, 1) := by decide +kernel
theorem dX0_lowestClosed_12 : decode cX0_lowestClosed 12 = .ok (.getfield 11, 3) := by decide +kernel
theorem dX0_lowestClosed_15 : decode cX0_lowestClosed 15 = .ok (.iload_n 1, 1) := by decide +kernel
theorem dX0_lowestClosed_16 : decode cX0_lowestClosed 16 = .ok (.aaload, 1) := by decide +kernel
theorem dX0_lowestClosed_17 : decode cX0_lowestClosed 17 = .ok (.getfield 45, 3) := by decide +kernel
theorem dX0_lowestClosed_20 : decode cX0_lowestClosed 20 = .ok (.ifCond .eq 5, 3) := by decide +kernel
theorem dX0_lowestClosed_23 : decode cX0_lowestClosed 23 = .ok (.iload_n 1, 1) := by decide +kernel
theorem dX0_lowestClosed_24 : decode cX0_lowestClosed 24 = .ok (.ireturn, 1) := by decide +kernel
theorem dX0_lowestClosed_25 : decode cX0_lowestClosed 25 = .ok (.iinc 1 1, 3) := by decide +kernel
theorem dX0_lowestClosed_28 : decode cX0_lowestClosed 28 = .ok (.goto (-26), 3) := by decide +kernel
theorem dX0_lowestClosed_31 : decode cX0_lowestClosed 31 = .ok (.iconst (-1), 1) := by decide +kernel
theorem dX0_lowestClosed_32 : decode cX0_lowestClosed 32 = .ok (.ireturn, 1) := by decide +kernel
set_option maxRecDepth 100000 in
theorem ggX0_demand_X0_alive : GoodIn wsX0_demand wsX0_alive := goodIn_r _ [8, 9, 10, 11, 12, 13, 14, 15, 19, 20, 21, 22, 23, 24, 25, 26, 27, 28] rfl (by decide +kernel)
set_option maxRecDepth 100000 in
theorem gX0_demand_X0_alive : GoodIn wsX0_demand (wsV RX0 49 RX0 yX0_alive wsX0_alive) := goodIn_app (goodIn_r _ [4, 5, 6, 7] rfl (by decide +kernel)) ggX0_demand_X0_alive
theorem dX0_demand_0 : decode cX0_demand 0 = .ok (.aload_n 0, 1) := by decide +kernel
theorem dX0_demand_1 : decode cX0_demand 1 = .ok (.invokevirtual 49, 3) := by decide +kernel
theorem dX0_demand_4 : decode cX0_demand 4 = .ok (.ifCond .ne 5, 3) := by decide +kernel
theorem dX0_demand_7 : decode cX0_demand 7 = .ok (.iconst 0, 1) := by decide +kernel
theorem dX0_demand_8 : decode cX0_demand 8 = .ok (.ireturn, 1) := by decide +kernel
theorem dX0_demand_9 : decode cX0_demand 9 = .ok (.iconst 0, 1) := by decide +kernel
theorem dX0_demand_10 : decode cX0_demand 10 = .ok (.istore_n 1, 1) := by decide +kernel
theorem dX0_demand_11 : decode cX0_demand 11 = .ok (.iconst 0, 1) := by decide +kernel
theorem dX0_demand_12 : decode cX0_demand 12 = .ok (.istore_n 2, 1) := by decide +kernel
theorem dX0_demand_13 : decode cX0_demand 13 = .ok (.iload_n 2, 1) := by decide +kernel
theorem dX0_demand_14 : decode cX0_demand 14 = .ok (.aload_n 0, 1) := by decide +kernel
theorem dX0_demand_15 : decode cX0_demand 15 = .ok (.getfield 19, 3) := by decide +kernel
theorem dX0_demand_18 : decode cX0_demand 18 = .ok (.arraylength, 1) := by decide +kernel
theorem dX0_demand_19 : decode cX0_demand 19 = .ok (.if_icmp .ge 33, 3) := by decide +kernel
theorem dX0_demand_22 : decode cX0_demand 22 = .ok (.aload_n 0, 1) := by decide +kernel
theorem dX0_demand_23 : decode cX0_demand 23 = .ok (.getfield 19, 3) := by decide +kernel
theorem dX0_demand_26 : decode cX0_demand 26 = .ok (.iload_n 2, 1) := by decide +kernel
theorem dX0_demand_27 : decode cX0_demand 27 = .ok (.aaload, 1) := by decide +kernel
theorem dX0_demand_28 : decode cX0_demand 28 = .ok (.getfield 53, 3) := by decide +kernel
theorem dX0_demand_31 : decode cX0_demand 31 = .ok (.ifCond .eq 15, 3) := by decide +kernel
theorem dX0_demand_34 : decode cX0_demand 34 = .ok (.iload_n 1, 1) := by decide +kernel
theorem dX0_demand_35 : decode cX0_demand 35 = .ok (.aload_n 0, 1) := by decide +kernel
theorem dX0_demand_36 : decode cX0_demand 36 = .ok (.getfield 19, 3) := by decide +kernel
theorem dX0_demand_39 : decode cX0_demand 39 = .ok (.iload_n 2, 1) := by decide +kernel
theorem dX0_demand_40 : decode cX0_demand 40 = .ok (.aaload, 1) := by decide +kernel
theorem dX0_demand_41 : decode cX0_demand 41 = .ok (.getfield 56, 3) := by decide +kernel
theorem dX0_demand_44 : decode cX0_demand 44 = .ok (.iadd, 1) := by decide +kernel
theorem dX0_demand_45 : decode cX0_demand 45 = .ok (.istore_n 1, 1) := by decide +kernel
theorem dX0_demand_46 : decode cX0_demand 46 = .ok (.iinc 2 1, 3) := by decide +kernel
theorem dX0_demand_49 : decode cX0_demand 49 = .ok (.goto (-36), 3) := by decide +kernel
theorem dX0_demand_52 : decode cX0_demand 52 = .ok (.iload_n 1, 1) := by decide +kernel
theorem dX0_demand_53 : decode cX0_demand 53 = .ok (.ireturn, 1) := by decide +kernel
set_option maxRecDepth 100000 in
theorem ggX0_total_X1_gives : GoodIn wsX0_total wsX1_gives := goodIn_r _ [6, 7, 8, 9, 10, 16, 17, 18, 19, 20, 21, 22, 23, 24, 25] rfl (by decide +kernel)
set_option maxRecDepth 100000 in
theorem gX0_total_X1_gives : GoodIn wsX0_total (wsV RX0 59 RX1 yX1_gives wsX1_gives) := goodIn_app (goodIn_r _ [2, 3, 4, 5] rfl (by decide +kernel)) ggX0_total_X1_gives
theorem dX0_total_0 : decode cX0_total 0 = .ok (.iconst 0, 1) := by decide +kernel
theorem dX0_total_1 : decode cX0_total 1 = .ok (.istore_n 2, 1) := by decide +kernel
theorem dX0_total_2 : decode cX0_total 2 = .ok (.iconst 0, 1) := by decide +kernel
theorem dX0_total_3 : decode cX0_total 3 = .ok (.istore_n 3, 1) := by decide +kernel
theorem dX0_total_4 : decode cX0_total 4 = .ok (.iload_n 3, 1) := by decide +kernel
theorem dX0_total_5 : decode cX0_total 5 = .ok (.aload_n 0, 1) := by decide +kernel
theorem dX0_total_6 : decode cX0_total 6 = .ok (.getfield 11, 3) := by decide +kernel
theorem dX0_total_9 : decode cX0_total 9 = .ok (.arraylength, 1) := by decide +kernel
theorem dX0_total_10 : decode cX0_total 10 = .ok (.if_icmp .ge 22, 3) := by decide +kernel
theorem dX0_total_13 : decode cX0_total 13 = .ok (.iload_n 2, 1) := by decide +kernel
theorem dX0_total_14 : decode cX0_total 14 = .ok (.aload_n 0, 1) := by decide +kernel
theorem dX0_total_15 : decode cX0_total 15 = .ok (.getfield 11, 3) := by decide +kernel
theorem dX0_total_18 : decode cX0_total 18 = .ok (.iload_n 3, 1) := by decide +kernel
theorem dX0_total_19 : decode cX0_total 19 = .ok (.aaload, 1) := by decide +kernel
theorem dX0_total_20 : decode cX0_total 20 = .ok (.iload_n 1, 1) := by decide +kernel
theorem dX0_total_21 : decode cX0_total 21 = .ok (.invokevirtual 59, 3) := by decide +kernel
theorem dX0_total_24 : decode cX0_total 24 = .ok (.iadd, 1) := by decide +kernel
theorem dX0_total_25 : decode cX0_total 25 = .ok (.istore_n 2, 1) := by decide +kernel
theorem dX0_total_26 : decode cX0_total 26 = .ok (.iinc 3 1, 3) := by decide +kernel
theorem dX0_total_29 : decode cX0_total 29 = .ok (.goto (-25), 3) := by decide +kernel
theorem dX0_total_32 : decode cX0_total 32 = .ok (.iload_n 2, 1) := by decide +kernel
theorem dX0_total_33 : decode cX0_total 33 = .ok (.ireturn, 1) := by decide +kernel
set_option maxRecDepth 100000 in
theorem ggX0_frequency_X0_alive : GoodIn wsX0_frequency wsX0_alive := goodIn_r _ [5, 6, 7, 28, 29, 30, 31, 32, 33, 34, 35, 36, 37, 38, 39, 40, 41, 42] rfl (by decide +kernel)
set_option maxRecDepth 100000 in
theorem gX0_frequency_X0_alive : GoodIn wsX0_frequency (wsV RX0 49 RX0 yX0_alive wsX0_alive) := goodIn_app (goodIn_r _ [1, 2, 3, 4] rfl (by decide +kernel)) ggX0_frequency_X0_alive
set_option maxRecDepth 100000 in
theorem ggX0_frequency_X0_demand : GoodIn wsX0_frequency wsX0_demand := goodIn_r _ [11, 12, 13, 14, 1, 2, 3, 4, 5, 6, 7, 28, 29, 30, 31, 32, 43, 44, 45, 33, 34, 35, 36, 37, 38, 39, 40, 41, 42] rfl (by decide +kernel)
set_option maxRecDepth 100000 in
theorem gX0_frequency_X0_demand : GoodIn wsX0_frequency (wsV RX0 63 RX0 yX0_demand wsX0_demand) := goodIn_app (goodIn_r _ [8, 9, 10, 4] rfl (by decide +kernel)) ggX0_frequency_X0_demand
set_option maxRecDepth 100000 in
theorem ggX0_frequency_X0_total : GoodIn wsX0_frequency wsX0_total := goodIn_r _ [18, 6, 19, 20, 21, 22, 23, 24, 25, 26, 27, 28, 29, 30, 31, 32, 33, 34, 35, 36, 37, 38, 39, 40, 41, 42] rfl (by decide +kernel)
set_option maxRecDepth 100000 in
theorem gX0_frequency_X0_total : GoodIn wsX0_frequency (wsV RX0 67 RX0 yX0_total wsX0_total) := goodIn_app (goodIn_r _ [15, 16, 17, 4] rfl (by decide +kernel)) ggX0_frequency_X0_total
theorem dX0_frequency_0 : decode cX0_frequency 0 = .ok (.aload_n 0, 1) := by decide +kernel
theorem dX0_frequency_1 : decode cX0_frequency 1 = .ok (.invokevirtual 49, 3) := by decide +kernel
theorem dX0_frequency_4 : decode cX0_frequency 4 = .ok (.ifCond .ne 5, 3) := by decide +kernel
theorem dX0_frequency_7 : decode cX0_frequency 7 = .ok (.iconst 0, 1) := by decide +kernel
theorem dX0_frequency_8 : decode cX0_frequency 8 = .ok (.ireturn, 1) := by decide +kernel
theorem dX0_frequency_9 : decode cX0_frequency 9 = .ok (.aload_n 0, 1) := by decide +kernel
theorem dX0_frequency_10 : decode cX0_frequency 10 = .ok (.invokevirtual 63, 3) := by decide +kernel
theorem dX0_frequency_13 : decode cX0_frequency 13 = .ok (.istore_n 1, 1) := by decide +kernel
theorem dX0_frequency_14 : decode cX0_frequency 14 = .ok (.sipush 4700, 3) := by decide +kernel
theorem dX0_frequency_17 : decode cX0_frequency 17 = .ok (.istore_n 2, 1) := by decide +kernel
theorem dX0_frequency_18 : decode cX0_frequency 18 = .ok (.sipush 5300, 3) := by decide +kernel
theorem dX0_frequency_21 : decode cX0_frequency 21 = .ok (.istore_n 3, 1) := by decide +kernel
theorem dX0_frequency_22 : decode cX0_frequency 22 = .ok (.iconst 0, 1) := by decide +kernel
theorem dX0_frequency_23 : decode cX0_frequency 23 = .ok (.istore 4, 2) := by decide +kernel
theorem dX0_frequency_25 : decode cX0_frequency 25 = .ok (.iload 4, 2) := by decide +kernel
theorem dX0_frequency_27 : decode cX0_frequency 27 = .ok (.bipush 10, 2) := by decide +kernel
theorem dX0_frequency_29 : decode cX0_frequency 29 = .ok (.if_icmp .ge 44, 3) := by decide +kernel
theorem dX0_frequency_32 : decode cX0_frequency 32 = .ok (.iload_n 2, 1) := by decide +kernel
theorem dX0_frequency_33 : decode cX0_frequency 33 = .ok (.iload_n 3, 1) := by decide +kernel
theorem dX0_frequency_34 : decode cX0_frequency 34 = .ok (.if_icmp .ge 39, 3) := by decide +kernel
theorem dX0_frequency_37 : decode cX0_frequency 37 = .ok (.iload_n 2, 1) := by decide +kernel
theorem dX0_frequency_38 : decode cX0_frequency 38 = .ok (.iload_n 3, 1) := by decide +kernel
theorem dX0_frequency_39 : decode cX0_frequency 39 = .ok (.iadd, 1) := by decide +kernel
theorem dX0_frequency_40 : decode cX0_frequency 40 = .ok (.iconst 1, 1) := by decide +kernel
theorem dX0_frequency_41 : decode cX0_frequency 41 = .ok (.iadd, 1) := by decide +kernel
theorem dX0_frequency_42 : decode cX0_frequency 42 = .ok (.iconst 2, 1) := by decide +kernel
theorem dX0_frequency_43 : decode cX0_frequency 43 = .ok (.idiv, 1) := by decide +kernel
theorem dX0_frequency_44 : decode cX0_frequency 44 = .ok (.istore 5, 2) := by decide +kernel
theorem dX0_frequency_46 : decode cX0_frequency 46 = .ok (.aload_n 0, 1) := by decide +kernel
theorem dX0_frequency_47 : decode cX0_frequency 47 = .ok (.iload 5, 2) := by decide +kernel
theorem dX0_frequency_49 : decode cX0_frequency 49 = .ok (.invokevirtual 67, 3) := by decide +kernel
theorem dX0_frequency_52 : decode cX0_frequency 52 = .ok (.iload_n 1, 1) := by decide +kernel
theorem dX0_frequency_53 : decode cX0_frequency 53 = .ok (.if_icmp .lt 9, 3) := by decide +kernel
theorem dX0_frequency_56 : decode cX0_frequency 56 = .ok (.iload 5, 2) := by decide +kernel
theorem dX0_frequency_58 : decode cX0_frequency 58 = .ok (.istore_n 2, 1) := by decide +kernel
theorem dX0_frequency_59 : decode cX0_frequency 59 = .ok (.goto 8, 3) := by decide +kernel
theorem dX0_frequency_62 : decode cX0_frequency 62 = .ok (.iload 5, 2) := by decide +kernel
theorem dX0_frequency_64 : decode cX0_frequency 64 = .ok (.iconst 1, 1) := by decide +kernel
theorem dX0_frequency_65 : decode cX0_frequency 65 = .ok (.isub, 1) := by decide +kernel
theorem dX0_frequency_66 : decode cX0_frequency 66 = .ok (.istore_n 3, 1) := by decide +kernel
theorem dX0_frequency_67 : decode cX0_frequency 67 = .ok (.iinc 4 1, 3) := by decide +kernel
theorem dX0_frequency_70 : decode cX0_frequency 70 = .ok (.goto (-45), 3) := by decide +kernel
theorem dX0_frequency_73 : decode cX0_frequency 73 = .ok (.iload_n 2, 1) := by decide +kernel
theorem dX0_frequency_74 : decode cX0_frequency 74 = .ok (.ireturn, 1) := by decide +kernel
set_option maxRecDepth 100000 in
theorem ggX0_frequencyDownwards_X0_alive : GoodIn wsX0_frequencyDownwards wsX0_alive := goodIn_r _ [5, 6, 7, 28, 29, 30, 31, 32, 33, 34, 35, 36, 37, 38, 39, 40, 41, 42] rfl (by decide +kernel)
set_option maxRecDepth 100000 in
theorem gX0_frequencyDownwards_X0_alive : GoodIn wsX0_frequencyDownwards (wsV RX0 49 RX0 yX0_alive wsX0_alive) := goodIn_app (goodIn_r _ [1, 2, 3, 4] rfl (by decide +kernel)) ggX0_frequencyDownwards_X0_alive
set_option maxRecDepth 100000 in
theorem ggX0_frequencyDownwards_X0_demand : GoodIn wsX0_frequencyDownwards wsX0_demand := goodIn_r _ [11, 12, 13, 14, 1, 2, 3, 4, 5, 6, 7, 28, 29, 30, 31, 32, 43, 44, 45, 33, 34, 35, 36, 37, 38, 39, 40, 41, 42] rfl (by decide +kernel)
set_option maxRecDepth 100000 in
theorem gX0_frequencyDownwards_X0_demand : GoodIn wsX0_frequencyDownwards (wsV RX0 63 RX0 yX0_demand wsX0_demand) := goodIn_app (goodIn_r _ [8, 9, 10, 4] rfl (by decide +kernel)) ggX0_frequencyDownwards_X0_demand
set_option maxRecDepth 100000 in
theorem ggX0_frequencyDownwards_X0_total : GoodIn wsX0_frequencyDownwards wsX0_total := goodIn_r _ [18, 6, 19, 20, 21, 22, 23, 24, 25, 26, 27, 28, 29, 30, 31, 32, 33, 34, 35, 36, 37, 38, 39, 40, 41, 42] rfl (by decide +kernel)
set_option maxRecDepth 100000 in
theorem gX0_frequencyDownwards_X0_total : GoodIn wsX0_frequencyDownwards (wsV RX0 67 RX0 yX0_total wsX0_total) := goodIn_app (goodIn_r _ [15, 16, 17, 4] rfl (by decide +kernel)) ggX0_frequencyDownwards_X0_total
theorem dX0_frequencyDownwards_0 : decode cX0_frequencyDownwards 0 = .ok (.aload_n 0, 1) := by decide +kernel
theorem dX0_frequencyDownwards_1 : decode cX0_frequencyDownwards 1 = .ok (.invokevirtual 49, 3) := by decide +kernel
theorem dX0_frequencyDownwards_4 : decode cX0_frequencyDownwards 4 = .ok (.ifCond .ne 5, 3) := by decide +kernel
theorem dX0_frequencyDownwards_7 : decode cX0_frequencyDownwards 7 = .ok (.iconst 0, 1) := by decide +kernel
theorem dX0_frequencyDownwards_8 : decode cX0_frequencyDownwards 8 = .ok (.ireturn, 1) := by decide +kernel
theorem dX0_frequencyDownwards_9 : decode cX0_frequencyDownwards 9 = .ok (.aload_n 0, 1) := by decide +kernel
theorem dX0_frequencyDownwards_10 : decode cX0_frequencyDownwards 10 = .ok (.invokevirtual 63, 3) := by decide +kernel
theorem dX0_frequencyDownwards_13 : decode cX0_frequencyDownwards 13 = .ok (.istore_n 1, 1) := by decide +kernel
theorem dX0_frequencyDownwards_14 : decode cX0_frequencyDownwards 14 = .ok (.sipush 5300, 3) := by decide +kernel
theorem dX0_frequencyDownwards_17 : decode cX0_frequencyDownwards 17 = .ok (.istore_n 2, 1) := by decide +kernel
theorem dX0_frequencyDownwards_18 : decode cX0_frequencyDownwards 18 = .ok (.iload_n 2, 1) := by decide +kernel
theorem dX0_frequencyDownwards_19 : decode cX0_frequencyDownwards 19 = .ok (.sipush 4700, 3) := by decide +kernel
theorem dX0_frequencyDownwards_22 : decode cX0_frequencyDownwards 22 = .ok (.if_icmp .le 20, 3) := by decide +kernel
theorem dX0_frequencyDownwards_25 : decode cX0_frequencyDownwards 25 = .ok (.aload_n 0, 1) := by decide +kernel
theorem dX0_frequencyDownwards_26 : decode cX0_frequencyDownwards 26 = .ok (.iload_n 2, 1) := by decide +kernel
theorem dX0_frequencyDownwards_27 : decode cX0_frequencyDownwards 27 = .ok (.invokevirtual 67, 3) := by decide +kernel
theorem dX0_frequencyDownwards_30 : decode cX0_frequencyDownwards 30 = .ok (.iload_n 1, 1) := by decide +kernel
theorem dX0_frequencyDownwards_31 : decode cX0_frequencyDownwards 31 = .ok (.if_icmp .lt 5, 3) := by decide +kernel
theorem dX0_frequencyDownwards_34 : decode cX0_frequencyDownwards 34 = .ok (.iload_n 2, 1) := by decide +kernel
theorem dX0_frequencyDownwards_35 : decode cX0_frequencyDownwards 35 = .ok (.ireturn, 1) := by decide +kernel
theorem dX0_frequencyDownwards_36 : decode cX0_frequencyDownwards 36 = .ok (.iinc 2 (-1), 3) := by decide +kernel
theorem dX0_frequencyDownwards_39 : decode cX0_frequencyDownwards 39 = .ok (.goto (-21), 3) := by decide +kernel
theorem dX0_frequencyDownwards_42 : decode cX0_frequencyDownwards 42 = .ok (.sipush 4700, 3) := by decide +kernel
theorem dX0_frequencyDownwards_45 : decode cX0_frequencyDownwards 45 = .ok (.ireturn, 1) := by decide +kernel
set_option maxRecDepth 100000 in
theorem ggX0_power_X1_gives : GoodIn wsX0_power wsX1_gives := goodIn_r _ [10, 11, 12, 13, 14, 41, 42, 43, 44, 45, 46, 47, 48, 49, 50] rfl (by decide +kernel)
set_option maxRecDepth 100000 in
theorem gX0_power_X1_gives : GoodIn wsX0_power (wsV RX0 59 RX1 yX1_gives wsX1_gives) := goodIn_app (goodIn_r _ [6, 7, 8, 9] rfl (by decide +kernel)) ggX0_power_X1_gives
set_option maxRecDepth 100000 in
theorem ggX0_power_X0_lowestClosed : GoodIn wsX0_power wsX0_lowestClosed := goodIn_r _ [19, 1, 20, 36, 37, 38, 39, 40, 41, 42, 43, 44, 45, 46, 47, 48, 49, 50] rfl (by decide +kernel)
set_option maxRecDepth 100000 in
theorem gX0_power_X0_lowestClosed : GoodIn wsX0_power (wsV RX0 70 RX0 yX0_lowestClosed wsX0_lowestClosed) := goodIn_app (goodIn_r _ [15, 16, 17, 18] rfl (by decide +kernel)) ggX0_power_X0_lowestClosed
set_option maxRecDepth 100000 in
theorem ggX0_power_X0_total : GoodIn wsX0_power wsX0_total := goodIn_r _ [24, 1, 6, 7, 8, 9, 10, 11, 12, 13, 14, 36, 37, 38, 39, 40, 41, 42, 43, 44, 45, 46, 47, 48, 49, 50] rfl (by decide +kernel)
set_option maxRecDepth 100000 in
theorem gX0_power_X0_total : GoodIn wsX0_power (wsV RX0 67 RX0 yX0_total wsX0_total) := goodIn_app (goodIn_r _ [21, 22, 23, 18] rfl (by decide +kernel)) ggX0_power_X0_total
set_option maxRecDepth 100000 in
theorem ggX0_power_X0_demand : GoodIn wsX0_power wsX0_demand := goodIn_r _ [28, 29, 30, 31, 32, 33, 34, 18, 35, 1, 20, 36, 37, 38, 39, 40, 51, 52, 53, 41, 42, 43, 44, 45, 46, 47, 48, 49, 50] rfl (by decide +kernel)
set_option maxRecDepth 100000 in
theorem gX0_power_X0_demand : GoodIn wsX0_power (wsV RX0 63 RX0 yX0_demand wsX0_demand) := goodIn_app (goodIn_r _ [25, 26, 27, 18] rfl (by decide +kernel)) ggX0_power_X0_demand
theorem dX0_power_0 : decode cX0_power 0 = .ok (.aload_n 0, 1) := by decide +kernel
theorem dX0_power_1 : decode cX0_power 1 = .ok (.getfield 11, 3) := by decide +kernel
theorem dX0_power_4 : decode cX0_power 4 = .ok (.iload_n 1, 1) := by decide +kernel
theorem dX0_power_5 : decode cX0_power 5 = .ok (.aaload, 1) := by decide +kernel
theorem dX0_power_6 : decode cX0_power 6 = .ok (.iload_n 2, 1) := by decide +kernel
theorem dX0_power_7 : decode cX0_power 7 = .ok (.invokevirtual 59, 3) := by decide +kernel
theorem dX0_power_10 : decode cX0_power 10 = .ok (.istore_n 3, 1) := by decide +kernel
theorem dX0_power_11 : decode cX0_power 11 = .ok (.iload_n 1, 1) := by decide +kernel
theorem dX0_power_12 : decode cX0_power 12 = .ok (.aload_n 0, 1) := by decide +kernel
theorem dX0_power_13 : decode cX0_power 13 = .ok (.invokevirtual 70, 3) := by decide +kernel
theorem dX0_power_16 : decode cX0_power 16 = .ok (.if_icmp .eq 5, 3) := by decide +kernel
theorem dX0_power_19 : decode cX0_power 19 = .ok (.iload_n 3, 1) := by decide +kernel
theorem dX0_power_20 : decode cX0_power 20 = .ok (.ireturn, 1) := by decide +kernel
theorem dX0_power_21 : decode cX0_power 21 = .ok (.iload_n 3, 1) := by decide +kernel
theorem dX0_power_22 : decode cX0_power 22 = .ok (.aload_n 0, 1) := by decide +kernel
theorem dX0_power_23 : decode cX0_power 23 = .ok (.iload_n 2, 1) := by decide +kernel
theorem dX0_power_24 : decode cX0_power 24 = .ok (.invokevirtual 67, 3) := by decide +kernel
theorem dX0_power_27 : decode cX0_power 27 = .ok (.aload_n 0, 1) := by decide +kernel
theorem dX0_power_28 : decode cX0_power 28 = .ok (.invokevirtual 63, 3) := by decide +kernel
theorem dX0_power_31 : decode cX0_power 31 = .ok (.isub, 1) := by decide +kernel
theorem dX0_power_32 : decode cX0_power 32 = .ok (.iconst 0, 1) := by decide +kernel
theorem dX0_power_33 : decode cX0_power 33 = .ok (.invokestatic 73, 3) := by decide +kernel
theorem dX0_power_36 : decode cX0_power 36 = .ok (.isub, 1) := by decide +kernel
theorem dX0_power_37 : decode cX0_power 37 = .ok (.ireturn, 1) := by decide +kernel
set_option maxRecDepth 100000 in
theorem ggX0_powers_X0_power : GoodIn wsX0_powers wsX0_power := goodIn_r _ [6, 1, 7, 8, 9, 10, 11, 12, 13, 14, 15, 16, 17, 18, 19, 20, 21, 22, 5, 23, 24, 25, 26, 27, 28, 29, 30, 31, 32, 33, 34, 35, 36, 37, 38, 39, 40, 41, 42, 43, 44, 45, 46, 47, 48, 49, 50, 51, 52, 53, 54, 55, 56, 57] rfl (by decide +kernel)
set_option maxRecDepth 100000 in
theorem gX0_powers_X0_power : GoodIn wsX0_powers (wsV RX0 79 RX0 yX0_power wsX0_power) := goodIn_app (goodIn_r _ [2, 3, 4, 5] rfl (by decide +kernel)) ggX0_powers_X0_power
theorem dX0_powers_0 : decode cX0_powers 0 = .ok (.iconst 0, 1) := by decide +kernel
theorem dX0_powers_1 : decode cX0_powers 1 = .ok (.istore_n 2, 1) := by decide +kernel
theorem dX0_powers_2 : decode cX0_powers 2 = .ok (.iconst 0, 1) := by decide +kernel
theorem dX0_powers_3 : decode cX0_powers 3 = .ok (.istore_n 3, 1) := by decide +kernel
theorem dX0_powers_4 : decode cX0_powers 4 = .ok (.iload_n 3, 1) := by decide +kernel
theorem dX0_powers_5 : decode cX0_powers 5 = .ok (.aload_n 0, 1) := by decide +kernel
theorem dX0_powers_6 : decode cX0_powers 6 = .ok (.getfield 11, 3) := by decide +kernel
theorem dX0_powers_9 : decode cX0_powers 9 = .ok (.arraylength, 1) := by decide +kernel
theorem dX0_powers_10 : decode cX0_powers 10 = .ok (.if_icmp .ge 18, 3) := by decide +kernel
theorem dX0_powers_13 : decode cX0_powers 13 = .ok (.iload_n 2, 1) := by decide +kernel
theorem dX0_powers_14 : decode cX0_powers 14 = .ok (.aload_n 0, 1) := by decide +kernel
theorem dX0_powers_15 : decode cX0_powers 15 = .ok (.iload_n 3, 1) := by decide +kernel
theorem dX0_powers_16 : decode cX0_powers 16 = .ok (.iload_n 1, 1) := by decide +kernel
theorem dX0_powers_17 : decode cX0_powers 17 = .ok (.invokevirtual 79, 3) := by decide +kernel
theorem dX0_powers_20 : decode cX0_powers 20 = .ok (.iadd, 1) := by decide +kernel
theorem dX0_powers_21 : decode cX0_powers 21 = .ok (.istore_n 2, 1) := by decide +kernel
theorem dX0_powers_22 : decode cX0_powers 22 = .ok (.iinc 3 1, 3) := by decide +kernel
theorem dX0_powers_25 : decode cX0_powers 25 = .ok (.goto (-21), 3) := by decide +kernel
theorem dX0_powers_28 : decode cX0_powers 28 = .ok (.iload_n 2, 1) := by decide +kernel
theorem dX0_powers_29 : decode cX0_powers 29 = .ok (.ireturn, 1) := by decide +kernel
set_option maxRecDepth 100000 in
theorem ggX0_lack_X0_demand : GoodIn wsX0_lack wsX0_demand := goodIn_r _ [9, 10, 11, 12, 13, 14, 15, 8, 16, 17, 18, 32, 33, 34, 35, 36, 37, 38, 39, 40, 41, 42, 43, 44, 45, 46, 47, 48, 49] rfl (by decide +kernel)
set_option maxRecDepth 100000 in
theorem gX0_lack_X0_demand : GoodIn wsX0_lack (wsV RX0 63 RX0 yX0_demand wsX0_demand) := goodIn_app (goodIn_r _ [5, 6, 7, 8] rfl (by decide +kernel)) ggX0_lack_X0_demand
set_option maxRecDepth 100000 in
theorem ggX0_lack_X0_total : GoodIn wsX0_lack wsX0_total := goodIn_r _ [22, 17, 23, 24, 25, 26, 27, 28, 29, 30, 31, 32, 33, 34, 35, 36, 40, 41, 42, 43, 44, 45, 46, 47, 48, 49] rfl (by decide +kernel)
set_option maxRecDepth 100000 in
theorem gX0_lack_X0_total : GoodIn wsX0_lack (wsV RX0 67 RX0 yX0_total wsX0_total) := goodIn_app (goodIn_r _ [19, 20, 21, 8] rfl (by decide +kernel)) ggX0_lack_X0_total
theorem dX0_lack_0 : decode cX0_lack 0 = .ok (.aload_n 0, 1) := by decide +kernel
theorem dX0_lack_1 : decode cX0_lack 1 = .ok (.invokevirtual 63, 3) := by decide +kernel
theorem dX0_lack_4 : decode cX0_lack 4 = .ok (.aload_n 0, 1) := by decide +kernel
theorem dX0_lack_5 : decode cX0_lack 5 = .ok (.iload_n 1, 1) := by decide +kernel
theorem dX0_lack_6 : decode cX0_lack 6 = .ok (.invokevirtual 67, 3) := by decide +kernel
theorem dX0_lack_9 : decode cX0_lack 9 = .ok (.isub, 1) := by decide +kernel
theorem dX0_lack_10 : decode cX0_lack 10 = .ok (.iconst 0, 1) := by decide +kernel
theorem dX0_lack_11 : decode cX0_lack 11 = .ok (.invokestatic 73, 3) := by decide +kernel
theorem dX0_lack_14 : decode cX0_lack 14 = .ok (.ireturn, 1) := by decide +kernel
set_option maxRecDepth 100000 in
theorem ggX0_whyNotClosed_X0_alive : GoodIn wsX0_whyNotClosed wsX0_alive := goodIn_r _ [14, 1, 3, 47, 48, 49, 50, 51, 52, 53, 54, 55, 56, 57, 58, 59, 60, 61] rfl (by decide +kernel)
set_option maxRecDepth 100000 in
theorem gX0_whyNotClosed_X0_alive : GoodIn wsX0_whyNotClosed (wsV RX0 49 RX0 yX0_alive wsX0_alive) := goodIn_app (goodIn_r _ [10, 11, 12, 13] rfl (by decide +kernel)) ggX0_whyNotClosed_X0_alive
set_option maxRecDepth 100000 in
theorem ggX0_whyNotClosed_X0_frequency : GoodIn wsX0_whyNotClosed wsX0_frequency := goodIn_r _ [18, 10, 11, 12, 13, 14, 1, 3, 19, 20, 21, 22, 23, 24, 25, 26, 27, 28, 29, 30, 31, 32, 33, 34, 35, 36, 37, 38, 47, 48, 49, 50, 51, 52, 53, 54, 55, 56, 57, 58, 59, 60, 61, 62, 63, 64] rfl (by decide +kernel)
set_option maxRecDepth 100000 in
theorem gX0_whyNotClosed_X0_frequency : GoodIn wsX0_whyNotClosed (wsV RX0 88 RX0 yX0_frequency wsX0_frequency) := goodIn_app (goodIn_r _ [15, 16, 17, 13] rfl (by decide +kernel)) ggX0_whyNotClosed_X0_frequency
set_option maxRecDepth 100000 in
theorem ggX0_whyNotClosed_X1_lamps : GoodIn wsX0_whyNotClosed wsX1_lamps := goodIn_r _ [42, 43, 44, 45, 7, 46, 52, 53, 54, 55, 56, 57, 58, 59, 60, 61] rfl (by decide +kernel)
set_option maxRecDepth 100000 in
theorem gX0_whyNotClosed_X1_lamps : GoodIn wsX0_whyNotClosed (wsV RX0 94 RX1 yX1_lamps wsX1_lamps) := goodIn_app (goodIn_r _ [39, 40, 41, 33] rfl (by decide +kernel)) ggX0_whyNotClosed_X1_lamps
theorem dX0_whyNotClosed_0 : decode cX0_whyNotClosed 0 = .ok (.aload_n 0, 1) := by decide +kernel
theorem dX0_whyNotClosed_1 : decode cX0_whyNotClosed 1 = .ok (.getfield 11, 3) := by decide +kernel
theorem dX0_whyNotClosed_4 : decode cX0_whyNotClosed 4 = .ok (.iload_n 1, 1) := by decide +kernel
theorem dX0_whyNotClosed_5 : decode cX0_whyNotClosed 5 = .ok (.aaload, 1) := by decide +kernel
theorem dX0_whyNotClosed_6 : decode cX0_whyNotClosed 6 = .ok (.astore_n 2, 1) := by decide +kernel
theorem dX0_whyNotClosed_7 : decode cX0_whyNotClosed 7 = .ok (.aload_n 2, 1) := by decide +kernel
theorem dX0_whyNotClosed_8 : decode cX0_whyNotClosed 8 = .ok (.getfield 82, 3) := by decide +kernel
theorem dX0_whyNotClosed_11 : decode cX0_whyNotClosed 11 = .ok (.ifCond .ne 5, 3) := by decide +kernel
theorem dX0_whyNotClosed_14 : decode cX0_whyNotClosed 14 = .ok (.iconst 1, 1) := by decide +kernel
theorem dX0_whyNotClosed_15 : decode cX0_whyNotClosed 15 = .ok (.ireturn, 1) := by decide +kernel
theorem dX0_whyNotClosed_16 : decode cX0_whyNotClosed 16 = .ok (.aload_n 2, 1) := by decide +kernel
theorem dX0_whyNotClosed_17 : decode cX0_whyNotClosed 17 = .ok (.getfield 45, 3) := by decide +kernel
theorem dX0_whyNotClosed_20 : decode cX0_whyNotClosed 20 = .ok (.ifCond .eq 5, 3) := by decide +kernel
theorem dX0_whyNotClosed_23 : decode cX0_whyNotClosed 23 = .ok (.iconst 2, 1) := by decide +kernel
theorem dX0_whyNotClosed_24 : decode cX0_whyNotClosed 24 = .ok (.ireturn, 1) := by decide +kernel
theorem dX0_whyNotClosed_25 : decode cX0_whyNotClosed 25 = .ok (.aload_n 0, 1) := by decide +kernel
theorem dX0_whyNotClosed_26 : decode cX0_whyNotClosed 26 = .ok (.invokevirtual 49, 3) := by decide +kernel
theorem dX0_whyNotClosed_29 : decode cX0_whyNotClosed 29 = .ok (.ifCond .ne 5, 3) := by decide +kernel
theorem dX0_whyNotClosed_32 : decode cX0_whyNotClosed 32 = .ok (.iconst 0, 1) := by decide +kernel
theorem dX0_whyNotClosed_33 : decode cX0_whyNotClosed 33 = .ok (.ireturn, 1) := by decide +kernel
theorem dX0_whyNotClosed_34 : decode cX0_whyNotClosed 34 = .ok (.aload_n 2, 1) := by decide +kernel
theorem dX0_whyNotClosed_35 : decode cX0_whyNotClosed 35 = .ok (.getfield 85, 3) := by decide +kernel
theorem dX0_whyNotClosed_38 : decode cX0_whyNotClosed 38 = .ok (.aload_n 0, 1) := by decide +kernel
theorem dX0_whyNotClosed_39 : decode cX0_whyNotClosed 39 = .ok (.invokevirtual 88, 3) := by decide +kernel
theorem dX0_whyNotClosed_42 : decode cX0_whyNotClosed 42 = .ok (.isub, 1) := by decide +kernel
theorem dX0_whyNotClosed_43 : decode cX0_whyNotClosed 43 = .ok (.invokestatic 91, 3) := by decide +kernel
theorem dX0_whyNotClosed_46 : decode cX0_whyNotClosed 46 = .ok (.aload_n 0, 1) := by decide +kernel
theorem dX0_whyNotClosed_47 : decode cX0_whyNotClosed 47 = .ok (.getfield 23, 3) := by decide +kernel
theorem dX0_whyNotClosed_50 : decode cX0_whyNotClosed 50 = .ok (.iconst 2, 1) := by decide +kernel
theorem dX0_whyNotClosed_51 : decode cX0_whyNotClosed 51 = .ok (.iaload, 1) := by decide +kernel
theorem dX0_whyNotClosed_52 : decode cX0_whyNotClosed 52 = .ok (.if_icmp .le 5, 3) := by decide +kernel
theorem dX0_whyNotClosed_55 : decode cX0_whyNotClosed 55 = .ok (.iconst 3, 1) := by decide +kernel
theorem dX0_whyNotClosed_56 : decode cX0_whyNotClosed 56 = .ok (.ireturn, 1) := by decide +kernel
theorem dX0_whyNotClosed_57 : decode cX0_whyNotClosed 57 = .ok (.aload_n 2, 1) := by decide +kernel
theorem dX0_whyNotClosed_58 : decode cX0_whyNotClosed 58 = .ok (.invokevirtual 94, 3) := by decide +kernel
theorem dX0_whyNotClosed_61 : decode cX0_whyNotClosed 61 = .ok (.aload_n 0, 1) := by decide +kernel
theorem dX0_whyNotClosed_62 : decode cX0_whyNotClosed 62 = .ok (.getfield 23, 3) := by decide +kernel
theorem dX0_whyNotClosed_65 : decode cX0_whyNotClosed 65 = .ok (.iconst 3, 1) := by decide +kernel
theorem dX0_whyNotClosed_66 : decode cX0_whyNotClosed 66 = .ok (.iaload, 1) := by decide +kernel
theorem dX0_whyNotClosed_67 : decode cX0_whyNotClosed 67 = .ok (.if_icmp .le 7, 3) := by decide +kernel
theorem dX0_whyNotClosed_70 : decode cX0_whyNotClosed 70 = .ok (.iconst 4, 1) := by decide +kernel
theorem dX0_whyNotClosed_71 : decode cX0_whyNotClosed 71 = .ok (.goto 4, 3) := by decide +kernel
theorem dX0_whyNotClosed_74 : decode cX0_whyNotClosed 74 = .ok (.iconst 0, 1) := by decide +kernel
theorem dX0_whyNotClosed_75 : decode cX0_whyNotClosed 75 = .ok (.ireturn, 1) := by decide +kernel
set_option maxRecDepth 100000 in
theorem ggX0_passTicks_X0_tick : GoodIn wsX0_passTicks wsX0_tick := goodIn_r _ [5, 6, 7, 8, 9, 10, 11, 4, 12, 13, 14, 15, 16, 17, 18, 19, 20, 21, 22, 23, 24, 25, 26, 27, 28, 29, 30, 31, 32, 33, 34, 35, 36, 37, 38, 39, 40, 41, 42, 43, 44, 45, 46, 47, 48, 49, 50, 51, 52, 53, 54, 55, 56, 57, 58, 59, 60, 61, 62, 63, 64, 65, 66, 67, 68, 69, 70, 71, 72, 73, 74, 75, 76, 77, 78, 79, 80, 81, 82, 83, 84, 85, 86, 87, 88, 89, 90, 91, 92, 93, 94, 95, 96, 97, 98, 99, 100, 101, 102, 103, 104, 105] rfl (by decide +kernel)
set_option maxRecDepth 100000 in
theorem gX0_passTicks_X0_tick : GoodIn wsX0_passTicks (wsV RX0 97 RX0 yX0_tick wsX0_tick) := goodIn_app (goodIn_r _ [1, 2, 3, 4] rfl (by decide +kernel)) ggX0_passTicks_X0_tick
theorem dX0_passTicks_0 : decode cX0_passTicks 0 = .ok (.iconst 0, 1) := by decide +kernel
theorem dX0_passTicks_1 : decode cX0_passTicks 1 = .ok (.istore_n 2, 1) := by decide +kernel
theorem dX0_passTicks_2 : decode cX0_passTicks 2 = .ok (.iconst 0, 1) := by decide +kernel
theorem dX0_passTicks_3 : decode cX0_passTicks 3 = .ok (.istore_n 3, 1) := by decide +kernel
theorem dX0_passTicks_4 : decode cX0_passTicks 4 = .ok (.iload_n 3, 1) := by decide +kernel
theorem dX0_passTicks_5 : decode cX0_passTicks 5 = .ok (.iload_n 1, 1) := by decide +kernel
theorem dX0_passTicks_6 : decode cX0_passTicks 6 = .ok (.if_icmp .ge 16, 3) := by decide +kernel
theorem dX0_passTicks_9 : decode cX0_passTicks 9 = .ok (.iload_n 2, 1) := by decide +kernel
theorem dX0_passTicks_10 : decode cX0_passTicks 10 = .ok (.aload_n 0, 1) := by decide +kernel
theorem dX0_passTicks_11 : decode cX0_passTicks 11 = .ok (.invokevirtual 97, 3) := by decide +kernel
theorem dX0_passTicks_14 : decode cX0_passTicks 14 = .ok (.iadd, 1) := by decide +kernel
theorem dX0_passTicks_15 : decode cX0_passTicks 15 = .ok (.istore_n 2, 1) := by decide +kernel
theorem dX0_passTicks_16 : decode cX0_passTicks 16 = .ok (.iinc 3 1, 3) := by decide +kernel
theorem dX0_passTicks_19 : decode cX0_passTicks 19 = .ok (.goto (-15), 3) := by decide +kernel
theorem dX0_passTicks_22 : decode cX0_passTicks 22 = .ok (.iload_n 2, 1) := by decide +kernel
theorem dX0_passTicks_23 : decode cX0_passTicks 23 = .ok (.ireturn, 1) := by decide +kernel
set_option maxRecDepth 100000 in
theorem ggX0_tick_X0_frequency : GoodIn wsX0_tick wsX0_frequency := goodIn_r _ [8, 9, 10, 11, 7, 12, 2, 13, 14, 15, 16, 17, 18, 19, 20, 21, 22, 23, 24, 25, 26, 27, 28, 29, 30, 31, 32, 33, 84, 85, 86, 87, 88, 89, 90, 91, 92, 93, 94, 95, 96, 97, 98, 99, 100, 101] rfl (by decide +kernel)
set_option maxRecDepth 100000 in
theorem gX0_tick_X0_frequency : GoodIn wsX0_tick (wsV RX0 88 RX0 yX0_frequency wsX0_frequency) := goodIn_app (goodIn_r _ [4, 5, 6, 7] rfl (by decide +kernel)) ggX0_tick_X0_frequency
set_option maxRecDepth 100000 in
theorem ggX0_tick_X0_lack : GoodIn wsX0_tick wsX0_lack := goodIn_r _ [37, 38, 39, 40, 41, 14, 15, 16, 7, 17, 18, 19, 20, 9, 10, 11, 12, 2, 13, 21, 22, 23, 24, 25, 26, 27, 28, 29, 30, 31, 32, 33, 84, 85, 86, 87, 88, 99, 100, 101, 89, 90, 91, 92, 93, 94, 95, 96, 97, 98] rfl (by decide +kernel)
set_option maxRecDepth 100000 in
theorem gX0_tick_X0_lack : GoodIn wsX0_tick (wsV RX0 100 RX0 yX0_lack wsX0_lack) := goodIn_app (goodIn_r _ [34, 35, 36, 7] rfl (by decide +kernel)) ggX0_tick_X0_lack
set_option maxRecDepth 100000 in
theorem ggX0_tick_X0_demand : GoodIn wsX0_tick wsX0_demand := goodIn_r _ [17, 18, 19, 20, 9, 10, 11, 7, 12, 2, 13, 84, 85, 86, 87, 88, 99, 100, 101, 89, 90, 91, 92, 93, 94, 95, 96, 97, 98] rfl (by decide +kernel)
set_option maxRecDepth 100000 in
theorem gX0_tick_X0_demand : GoodIn wsX0_tick (wsV RX0 63 RX0 yX0_demand wsX0_demand) := goodIn_app (goodIn_r _ [14, 15, 16, 7] rfl (by decide +kernel)) ggX0_tick_X0_demand
set_option maxRecDepth 100000 in
theorem ggX0_tick_X0_power : GoodIn wsX0_tick wsX0_power := goodIn_r _ [45, 2, 38, 39, 40, 41, 25, 26, 27, 28, 29, 30, 31, 32, 33, 46, 47, 48, 7, 49, 13, 21, 22, 23, 24, 14, 15, 16, 17, 18, 19, 20, 9, 10, 11, 12, 84, 85, 86, 87, 88, 89, 90, 91, 92, 93, 94, 95, 96, 97, 98, 99, 100, 101] rfl (by decide +kernel)
set_option maxRecDepth 100000 in
theorem gX0_tick_X0_power : GoodIn wsX0_tick (wsV RX0 79 RX0 yX0_power wsX0_power) := goodIn_app (goodIn_r _ [42, 43, 44, 7] rfl (by decide +kernel)) ggX0_tick_X0_power
set_option maxRecDepth 100000 in
theorem ggX0_tick_X1_tick : GoodIn wsX0_tick wsX1_tick := goodIn_r _ [53, 54, 30, 33, 55, 56, 57, 58, 32, 59, 60, 61, 62, 89, 90, 91, 92, 93, 94, 95, 96, 97, 98] rfl (by decide +kernel)
set_option maxRecDepth 100000 in
theorem gX0_tick_X1_tick : GoodIn wsX0_tick (wsV RX0 103 RX1 yX1_tick wsX1_tick) := goodIn_app (goodIn_r _ [50, 51, 52, 28] rfl (by decide +kernel)) ggX0_tick_X1_tick
set_option maxRecDepth 100000 in
theorem ggX0_tick_X0_shed : GoodIn wsX0_tick wsX0_shed := goodIn_r _ [66, 18, 19, 20, 67, 84, 85, 86, 87, 88, 99, 100, 101] rfl (by decide +kernel)
set_option maxRecDepth 100000 in
theorem gX0_tick_X0_shed : GoodIn wsX0_tick (wsV RX0 106 RX0 yX0_shed wsX0_shed) := goodIn_app (goodIn_r _ [63, 64, 65, 7] rfl (by decide +kernel)) ggX0_tick_X0_shed
set_option maxRecDepth 100000 in
theorem ggX0_tick_X0_trip : GoodIn wsX0_tick wsX0_trip := goodIn_r _ [71, 2, 72, 73, 74, 75, 76, 77, 78, 28, 79, 30, 80, 81, 82, 83, 58, 55, 56, 84, 85, 86, 87, 88, 89, 90, 91, 92, 93, 94, 95, 96, 97, 98] rfl (by decide +kernel)
set_option maxRecDepth 100000 in
theorem gX0_tick_X0_trip : GoodIn wsX0_tick (wsV RX0 109 RX0 yX0_trip wsX0_trip) := goodIn_app (goodIn_r _ [68, 69, 70, 7] rfl (by decide +kernel)) ggX0_tick_X0_trip
theorem dX0_tick_0 : decode cX0_tick 0 = .ok (.aload_n 0, 1) := by decide +kernel
theorem dX0_tick_1 : decode cX0_tick 1 = .ok (.invokevirtual 88, 3) := by decide +kernel
theorem dX0_tick_4 : decode cX0_tick 4 = .ok (.istore_n 1, 1) := by decide +kernel
theorem dX0_tick_5 : decode cX0_tick 5 = .ok (.aload_n 0, 1) := by decide +kernel
theorem dX0_tick_6 : decode cX0_tick 6 = .ok (.iload_n 1, 1) := by decide +kernel
theorem dX0_tick_7 : decode cX0_tick 7 = .ok (.invokevirtual 100, 3) := by decide +kernel
theorem dX0_tick_10 : decode cX0_tick 10 = .ok (.istore_n 2, 1) := by decide +kernel
theorem dX0_tick_11 : decode cX0_tick 11 = .ok (.aload_n 0, 1) := by decide +kernel
theorem dX0_tick_12 : decode cX0_tick 12 = .ok (.dup, 1) := by decide +kernel
theorem dX0_tick_13 : decode cX0_tick 13 = .ok (.getfield 42, 3) := by decide +kernel
theorem dX0_tick_16 : decode cX0_tick 16 = .ok (.aload_n 0, 1) := by decide +kernel
theorem dX0_tick_17 : decode cX0_tick 17 = .ok (.invokevirtual 63, 3) := by decide +kernel
theorem dX0_tick_20 : decode cX0_tick 20 = .ok (.iload_n 2, 1) := by decide +kernel
theorem dX0_tick_21 : decode cX0_tick 21 = .ok (.isub, 1) := by decide +kernel
theorem dX0_tick_22 : decode cX0_tick 22 = .ok (.iadd, 1) := by decide +kernel
theorem dX0_tick_23 : decode cX0_tick 23 = .ok (.putfield 42, 3) := by decide +kernel
theorem dX0_tick_26 : decode cX0_tick 26 = .ok (.iconst 0, 1) := by decide +kernel
theorem dX0_tick_27 : decode cX0_tick 27 = .ok (.istore_n 3, 1) := by decide +kernel
theorem dX0_tick_28 : decode cX0_tick 28 = .ok (.iload_n 3, 1) := by decide +kernel
theorem dX0_tick_29 : decode cX0_tick 29 = .ok (.aload_n 0, 1) := by decide +kernel
theorem dX0_tick_30 : decode cX0_tick 30 = .ok (.getfield 11, 3) := by decide +kernel
theorem dX0_tick_33 : decode cX0_tick 33 = .ok (.arraylength, 1) := by decide +kernel
theorem dX0_tick_34 : decode cX0_tick 34 = .ok (.if_icmp .ge 25, 3) := by decide +kernel
theorem dX0_tick_37 : decode cX0_tick 37 = .ok (.aload_n 0, 1) := by decide +kernel
theorem dX0_tick_38 : decode cX0_tick 38 = .ok (.getfield 11, 3) := by decide +kernel
theorem dX0_tick_41 : decode cX0_tick 41 = .ok (.iload_n 3, 1) := by decide +kernel
theorem dX0_tick_42 : decode cX0_tick 42 = .ok (.aaload, 1) := by decide +kernel
theorem dX0_tick_43 : decode cX0_tick 43 = .ok (.aload_n 0, 1) := by decide +kernel
theorem dX0_tick_44 : decode cX0_tick 44 = .ok (.iload_n 3, 1) := by decide +kernel
theorem dX0_tick_45 : decode cX0_tick 45 = .ok (.iload_n 1, 1) := by decide +kernel
theorem dX0_tick_46 : decode cX0_tick 46 = .ok (.invokevirtual 79, 3) := by decide +kernel
theorem dX0_tick_49 : decode cX0_tick 49 = .ok (.iload_n 1, 1) := by decide +kernel
theorem dX0_tick_50 : decode cX0_tick 50 = .ok (.invokevirtual 103, 3) := by decide +kernel
theorem dX0_tick_53 : decode cX0_tick 53 = .ok (.iinc 3 1, 3) := by decide +kernel
theorem dX0_tick_56 : decode cX0_tick 56 = .ok (.goto (-28), 3) := by decide +kernel
theorem dX0_tick_59 : decode cX0_tick 59 = .ok (.iload_n 2, 1) := by decide +kernel
theorem dX0_tick_60 : decode cX0_tick 60 = .ok (.ifCond .le 7, 3) := by decide +kernel
theorem dX0_tick_63 : decode cX0_tick 63 = .ok (.aload_n 0, 1) := by decide +kernel
theorem dX0_tick_64 : decode cX0_tick 64 = .ok (.invokevirtual 106, 3) := by decide +kernel
theorem dX0_tick_67 : decode cX0_tick 67 = .ok (.aload_n 0, 1) := by decide +kernel
theorem dX0_tick_68 : decode cX0_tick 68 = .ok (.dup, 1) := by decide +kernel
theorem dX0_tick_69 : decode cX0_tick 69 = .ok (.getfield 38, 3) := by decide +kernel
theorem dX0_tick_72 : decode cX0_tick 72 = .ok (.iconst 1, 1) := by decide +kernel
theorem dX0_tick_73 : decode cX0_tick 73 = .ok (.iadd, 1) := by decide +kernel
theorem dX0_tick_74 : decode cX0_tick 74 = .ok (.putfield 38, 3) := by decide +kernel
theorem dX0_tick_77 : decode cX0_tick 77 = .ok (.aload_n 0, 1) := by decide +kernel
theorem dX0_tick_78 : decode cX0_tick 78 = .ok (.invokevirtual 109, 3) := by decide +kernel
theorem dX0_tick_81 : decode cX0_tick 81 = .ok (.ireturn, 1) := by decide +kernel
theorem dX0_shed_0 : decode cX0_shed 0 = .ok (.aload_n 0, 1) := by decide +kernel
theorem dX0_shed_1 : decode cX0_shed 1 = .ok (.getfield 19, 3) := by decide +kernel
theorem dX0_shed_4 : decode cX0_shed 4 = .ok (.arraylength, 1) := by decide +kernel
theorem dX0_shed_5 : decode cX0_shed 5 = .ok (.iconst 1, 1) := by decide +kernel
theorem dX0_shed_6 : decode cX0_shed 6 = .ok (.isub, 1) := by decide +kernel
theorem dX0_shed_7 : decode cX0_shed 7 = .ok (.istore_n 1, 1) := by decide +kernel
theorem dX0_shed_8 : decode cX0_shed 8 = .ok (.iload_n 1, 1) := by decide +kernel
theorem dX0_shed_9 : decode cX0_shed 9 = .ok (.ifCond .lt 59, 3) := by decide +kernel
theorem dX0_shed_12 : decode cX0_shed 12 = .ok (.aload_n 0, 1) := by decide +kernel
theorem dX0_shed_13 : decode cX0_shed 13 = .ok (.getfield 19, 3) := by decide +kernel
theorem dX0_shed_16 : decode cX0_shed 16 = .ok (.iload_n 1, 1) := by decide +kernel
theorem dX0_shed_17 : decode cX0_shed 17 = .ok (.aaload, 1) := by decide +kernel
theorem dX0_shed_18 : decode cX0_shed 18 = .ok (.getfield 53, 3) := by decide +kernel
theorem dX0_shed_21 : decode cX0_shed 21 = .ok (.ifCond .eq 41, 3) := by decide +kernel
theorem dX0_shed_24 : decode cX0_shed 24 = .ok (.aload_n 0, 1) := by decide +kernel
theorem dX0_shed_25 : decode cX0_shed 25 = .ok (.getfield 19, 3) := by decide +kernel
theorem dX0_shed_28 : decode cX0_shed 28 = .ok (.iload_n 1, 1) := by decide +kernel
theorem dX0_shed_29 : decode cX0_shed 29 = .ok (.aaload, 1) := by decide +kernel
theorem dX0_shed_30 : decode cX0_shed 30 = .ok (.getfield 56, 3) := by decide +kernel
theorem dX0_shed_33 : decode cX0_shed 33 = .ok (.ifCond .le 29, 3) := by decide +kernel
theorem dX0_shed_36 : decode cX0_shed 36 = .ok (.aload_n 0, 1) := by decide +kernel
theorem dX0_shed_37 : decode cX0_shed 37 = .ok (.getfield 19, 3) := by decide +kernel
theorem dX0_shed_40 : decode cX0_shed 40 = .ok (.iload_n 1, 1) := by decide +kernel
theorem dX0_shed_41 : decode cX0_shed 41 = .ok (.aaload, 1) := by decide +kernel
theorem dX0_shed_42 : decode cX0_shed 42 = .ok (.iconst 0, 1) := by decide +kernel
theorem dX0_shed_43 : decode cX0_shed 43 = .ok (.putfield 53, 3) := by decide +kernel
theorem dX0_shed_46 : decode cX0_shed 46 = .ok (.aload_n 0, 1) := by decide +kernel
theorem dX0_shed_47 : decode cX0_shed 47 = .ok (.getfield 19, 3) := by decide +kernel
theorem dX0_shed_50 : decode cX0_shed 50 = .ok (.iload_n 1, 1) := by decide +kernel
theorem dX0_shed_51 : decode cX0_shed 51 = .ok (.aaload, 1) := by decide +kernel
theorem dX0_shed_52 : decode cX0_shed 52 = .ok (.dup, 1) := by decide +kernel
theorem dX0_shed_53 : decode cX0_shed 53 = .ok (.getfield 112, 3) := by decide +kernel
theorem dX0_shed_56 : decode cX0_shed 56 = .ok (.iconst 1, 1) := by decide +kernel
theorem dX0_shed_57 : decode cX0_shed 57 = .ok (.iadd, 1) := by decide +kernel
theorem dX0_shed_58 : decode cX0_shed 58 = .ok (.putfield 112, 3) := by decide +kernel
theorem dX0_shed_61 : decode cX0_shed 61 = .ok (.return_, 1) := by decide +kernel
theorem dX0_shed_62 : decode cX0_shed 62 = .ok (.iinc 1 (-1), 3) := by decide +kernel
theorem dX0_shed_65 : decode cX0_shed 65 = .ok (.goto (-57), 3) := by decide +kernel
theorem dX0_shed_68 : decode cX0_shed 68 = .ok (.return_, 1) := by decide +kernel
set_option maxRecDepth 100000 in
theorem ggX0_trip_X1_openBreaker : GoodIn wsX0_trip wsX1_openBreaker := goodIn_r _ [10, 11, 12, 13, 14, 9, 15, 16, 17, 18, 24, 25, 26, 27, 28, 29, 30, 31, 32, 33] rfl (by decide +kernel)
set_option maxRecDepth 100000 in
theorem gX0_trip_X1_openBreaker : GoodIn wsX0_trip (wsV RX0 121 RX1 yX1_openBreaker wsX1_openBreaker) := goodIn_app (goodIn_r _ [6, 7, 8, 9] rfl (by decide +kernel)) ggX0_trip_X1_openBreaker
theorem dX0_trip_0 : decode cX0_trip 0 = .ok (.iconst 0, 1) := by decide +kernel
theorem dX0_trip_1 : decode cX0_trip 1 = .ok (.istore_n 1, 1) := by decide +kernel
theorem dX0_trip_2 : decode cX0_trip 2 = .ok (.iconst 0, 1) := by decide +kernel
theorem dX0_trip_3 : decode cX0_trip 3 = .ok (.istore_n 2, 1) := by decide +kernel
theorem dX0_trip_4 : decode cX0_trip 4 = .ok (.iload_n 2, 1) := by decide +kernel
theorem dX0_trip_5 : decode cX0_trip 5 = .ok (.aload_n 0, 1) := by decide +kernel
theorem dX0_trip_6 : decode cX0_trip 6 = .ok (.getfield 11, 3) := by decide +kernel
theorem dX0_trip_9 : decode cX0_trip 9 = .ok (.arraylength, 1) := by decide +kernel
theorem dX0_trip_10 : decode cX0_trip 10 = .ok (.if_icmp .ge 59, 3) := by decide +kernel
theorem dX0_trip_13 : decode cX0_trip 13 = .ok (.aload_n 0, 1) := by decide +kernel
theorem dX0_trip_14 : decode cX0_trip 14 = .ok (.getfield 11, 3) := by decide +kernel
theorem dX0_trip_17 : decode cX0_trip 17 = .ok (.iload_n 2, 1) := by decide +kernel
theorem dX0_trip_18 : decode cX0_trip 18 = .ok (.aaload, 1) := by decide +kernel
theorem dX0_trip_19 : decode cX0_trip 19 = .ok (.astore_n 3, 1) := by decide +kernel
theorem dX0_trip_20 : decode cX0_trip 20 = .ok (.aload_n 3, 1) := by decide +kernel
theorem dX0_trip_21 : decode cX0_trip 21 = .ok (.getfield 115, 3) := by decide +kernel
theorem dX0_trip_24 : decode cX0_trip 24 = .ok (.aload_n 0, 1) := by decide +kernel
theorem dX0_trip_25 : decode cX0_trip 25 = .ok (.getfield 23, 3) := by decide +kernel
theorem dX0_trip_28 : decode cX0_trip 28 = .ok (.iconst 0, 1) := by decide +kernel
theorem dX0_trip_29 : decode cX0_trip 29 = .ok (.iaload, 1) := by decide +kernel
theorem dX0_trip_30 : decode cX0_trip 30 = .ok (.if_icmp .ge 16, 3) := by decide +kernel
theorem dX0_trip_33 : decode cX0_trip 33 = .ok (.aload_n 3, 1) := by decide +kernel
theorem dX0_trip_34 : decode cX0_trip 34 = .ok (.getfield 118, 3) := by decide +kernel
theorem dX0_trip_37 : decode cX0_trip 37 = .ok (.aload_n 0, 1) := by decide +kernel
theorem dX0_trip_38 : decode cX0_trip 38 = .ok (.getfield 23, 3) := by decide +kernel
theorem dX0_trip_41 : decode cX0_trip 41 = .ok (.iconst 1, 1) := by decide +kernel
theorem dX0_trip_42 : decode cX0_trip 42 = .ok (.iaload, 1) := by decide +kernel
theorem dX0_trip_43 : decode cX0_trip 43 = .ok (.if_icmp .lt 20, 3) := by decide +kernel
theorem dX0_trip_46 : decode cX0_trip 46 = .ok (.aload_n 3, 1) := by decide +kernel
theorem dX0_trip_47 : decode cX0_trip 47 = .ok (.invokevirtual 121, 3) := by decide +kernel
theorem dX0_trip_50 : decode cX0_trip 50 = .ok (.aload_n 3, 1) := by decide +kernel
theorem dX0_trip_51 : decode cX0_trip 51 = .ok (.dup, 1) := by decide +kernel
theorem dX0_trip_52 : decode cX0_trip 52 = .ok (.getfield 124, 3) := by decide +kernel
theorem dX0_trip_55 : decode cX0_trip 55 = .ok (.iconst 1, 1) := by decide +kernel
theorem dX0_trip_56 : decode cX0_trip 56 = .ok (.iadd, 1) := by decide +kernel
theorem dX0_trip_57 : decode cX0_trip 57 = .ok (.putfield 124, 3) := by decide +kernel
theorem dX0_trip_60 : decode cX0_trip 60 = .ok (.iinc 1 1, 3) := by decide +kernel
theorem dX0_trip_63 : decode cX0_trip 63 = .ok (.iinc 2 1, 3) := by decide +kernel
theorem dX0_trip_66 : decode cX0_trip 66 = .ok (.goto (-62), 3) := by decide +kernel
theorem dX0_trip_69 : decode cX0_trip 69 = .ok (.iload_n 1, 1) := by decide +kernel
theorem dX0_trip_70 : decode cX0_trip 70 = .ok (.ireturn, 1) := by decide +kernel
set_option maxRecDepth 100000 in
theorem ggX0_running_X5_oneIf : GoodIn wsX0_running wsX5_oneIf := goodIn_r _ [5] rfl (by decide +kernel)
set_option maxRecDepth 100000 in
theorem gX0_running_X5_oneIf_n127 : GoodIn wsX0_running (wsX5_oneIf) := ggX0_running_X5_oneIf
theorem dX0_running_0 : decode cX0_running 0 = .ok (.iconst 0, 1) := by decide +kernel
theorem dX0_running_1 : decode cX0_running 1 = .ok (.istore_n 1, 1) := by decide +kernel
theorem dX0_running_2 : decode cX0_running 2 = .ok (.iconst 0, 1) := by decide +kernel
theorem dX0_running_3 : decode cX0_running 3 = .ok (.istore_n 2, 1) := by decide +kernel
theorem dX0_running_4 : decode cX0_running 4 = .ok (.iload_n 2, 1) := by decide +kernel
theorem dX0_running_5 : decode cX0_running 5 = .ok (.aload_n 0, 1) := by decide +kernel
theorem dX0_running_6 : decode cX0_running 6 = .ok (.getfield 11, 3) := by decide +kernel
theorem dX0_running_9 : decode cX0_running 9 = .ok (.arraylength, 1) := by decide +kernel
theorem dX0_running_10 : decode cX0_running 10 = .ok (.if_icmp .ge 24, 3) := by decide +kernel
theorem dX0_running_13 : decode cX0_running 13 = .ok (.iload_n 1, 1) := by decide +kernel
theorem dX0_running_14 : decode cX0_running 14 = .ok (.aload_n 0, 1) := by decide +kernel
theorem dX0_running_15 : decode cX0_running 15 = .ok (.getfield 11, 3) := by decide +kernel
theorem dX0_running_18 : decode cX0_running 18 = .ok (.iload_n 2, 1) := by decide +kernel
theorem dX0_running_19 : decode cX0_running 19 = .ok (.aaload, 1) := by decide +kernel
theorem dX0_running_20 : decode cX0_running 20 = .ok (.getfield 82, 3) := by decide +kernel
theorem dX0_running_23 : decode cX0_running 23 = .ok (.invokestatic 127, 3) := by decide +kernel
theorem dX0_running_26 : decode cX0_running 26 = .ok (.iadd, 1) := by decide +kernel
theorem dX0_running_27 : decode cX0_running 27 = .ok (.istore_n 1, 1) := by decide +kernel
theorem dX0_running_28 : decode cX0_running 28 = .ok (.iinc 2 1, 3) := by decide +kernel
theorem dX0_running_31 : decode cX0_running 31 = .ok (.goto (-27), 3) := by decide +kernel
theorem dX0_running_34 : decode cX0_running 34 = .ok (.iload_n 1, 1) := by decide +kernel
theorem dX0_running_35 : decode cX0_running 35 = .ok (.ireturn, 1) := by decide +kernel
set_option maxRecDepth 100000 in
theorem ggX0_closedBreakers_X5_oneIf : GoodIn wsX0_closedBreakers wsX5_oneIf := goodIn_r _ [5] rfl (by decide +kernel)
set_option maxRecDepth 100000 in
theorem gX0_closedBreakers_X5_oneIf_n127 : GoodIn wsX0_closedBreakers (wsX5_oneIf) := ggX0_closedBreakers_X5_oneIf
theorem dX0_closedBreakers_0 : decode cX0_closedBreakers 0 = .ok (.iconst 0, 1) := by decide +kernel
theorem dX0_closedBreakers_1 : decode cX0_closedBreakers 1 = .ok (.istore_n 1, 1) := by decide +kernel
theorem dX0_closedBreakers_2 : decode cX0_closedBreakers 2 = .ok (.iconst 0, 1) := by decide +kernel
theorem dX0_closedBreakers_3 : decode cX0_closedBreakers 3 = .ok (.istore_n 2, 1) := by decide +kernel
theorem dX0_closedBreakers_4 : decode cX0_closedBreakers 4 = .ok (.iload_n 2, 1) := by decide +kernel
theorem dX0_closedBreakers_5 : decode cX0_closedBreakers 5 = .ok (.aload_n 0, 1) := by decide +kernel
theorem dX0_closedBreakers_6 : decode cX0_closedBreakers 6 = .ok (.getfield 11, 3) := by decide +kernel
theorem dX0_closedBreakers_9 : decode cX0_closedBreakers 9 = .ok (.arraylength, 1) := by decide +kernel
theorem dX0_closedBreakers_10 : decode cX0_closedBreakers 10 = .ok (.if_icmp .ge 24, 3) := by decide +kernel
theorem dX0_closedBreakers_13 : decode cX0_closedBreakers 13 = .ok (.iload_n 1, 1) := by decide +kernel
theorem dX0_closedBreakers_14 : decode cX0_closedBreakers 14 = .ok (.aload_n 0, 1) := by decide +kernel
theorem dX0_closedBreakers_15 : decode cX0_closedBreakers 15 = .ok (.getfield 11, 3) := by decide +kernel
theorem dX0_closedBreakers_18 : decode cX0_closedBreakers 18 = .ok (.iload_n 2, 1) := by decide +kernel
theorem dX0_closedBreakers_19 : decode cX0_closedBreakers 19 = .ok (.aaload, 1) := by decide +kernel
theorem dX0_closedBreakers_20 : decode cX0_closedBreakers 20 = .ok (.getfield 45, 3) := by decide +kernel
theorem dX0_closedBreakers_23 : decode cX0_closedBreakers 23 = .ok (.invokestatic 127, 3) := by decide +kernel
theorem dX0_closedBreakers_26 : decode cX0_closedBreakers 26 = .ok (.iadd, 1) := by decide +kernel
theorem dX0_closedBreakers_27 : decode cX0_closedBreakers 27 = .ok (.istore_n 1, 1) := by decide +kernel
theorem dX0_closedBreakers_28 : decode cX0_closedBreakers 28 = .ok (.iinc 2 1, 3) := by decide +kernel
theorem dX0_closedBreakers_31 : decode cX0_closedBreakers 31 = .ok (.goto (-27), 3) := by decide +kernel
theorem dX0_closedBreakers_34 : decode cX0_closedBreakers 34 = .ok (.iload_n 1, 1) := by decide +kernel
theorem dX0_closedBreakers_35 : decode cX0_closedBreakers 35 = .ok (.ireturn, 1) := by decide +kernel
theorem dX0_ratingsClosed_0 : decode cX0_ratingsClosed 0 = .ok (.iconst 0, 1) := by decide +kernel
theorem dX0_ratingsClosed_1 : decode cX0_ratingsClosed 1 = .ok (.istore_n 1, 1) := by decide +kernel
theorem dX0_ratingsClosed_2 : decode cX0_ratingsClosed 2 = .ok (.iconst 0, 1) := by decide +kernel
theorem dX0_ratingsClosed_3 : decode cX0_ratingsClosed 3 = .ok (.istore_n 2, 1) := by decide +kernel
theorem dX0_ratingsClosed_4 : decode cX0_ratingsClosed 4 = .ok (.iload_n 2, 1) := by decide +kernel
theorem dX0_ratingsClosed_5 : decode cX0_ratingsClosed 5 = .ok (.aload_n 0, 1) := by decide +kernel
theorem dX0_ratingsClosed_6 : decode cX0_ratingsClosed 6 = .ok (.getfield 11, 3) := by decide +kernel
theorem dX0_ratingsClosed_9 : decode cX0_ratingsClosed 9 = .ok (.arraylength, 1) := by decide +kernel
theorem dX0_ratingsClosed_10 : decode cX0_ratingsClosed 10 = .ok (.if_icmp .ge 33, 3) := by decide +kernel
theorem dX0_ratingsClosed_13 : decode cX0_ratingsClosed 13 = .ok (.aload_n 0, 1) := by decide +kernel
theorem dX0_ratingsClosed_14 : decode cX0_ratingsClosed 14 = .ok (.getfield 11, 3) := by decide +kernel
theorem dX0_ratingsClosed_17 : decode cX0_ratingsClosed 17 = .ok (.iload_n 2, 1) := by decide +kernel
theorem dX0_ratingsClosed_18 : decode cX0_ratingsClosed 18 = .ok (.aaload, 1) := by decide +kernel
theorem dX0_ratingsClosed_19 : decode cX0_ratingsClosed 19 = .ok (.getfield 45, 3) := by decide +kernel
theorem dX0_ratingsClosed_22 : decode cX0_ratingsClosed 22 = .ok (.ifCond .eq 15, 3) := by decide +kernel
theorem dX0_ratingsClosed_25 : decode cX0_ratingsClosed 25 = .ok (.iload_n 1, 1) := by decide +kernel
theorem dX0_ratingsClosed_26 : decode cX0_ratingsClosed 26 = .ok (.aload_n 0, 1) := by decide +kernel
theorem dX0_ratingsClosed_27 : decode cX0_ratingsClosed 27 = .ok (.getfield 11, 3) := by decide +kernel
theorem dX0_ratingsClosed_30 : decode cX0_ratingsClosed 30 = .ok (.iload_n 2, 1) := by decide +kernel
theorem dX0_ratingsClosed_31 : decode cX0_ratingsClosed 31 = .ok (.aaload, 1) := by decide +kernel
theorem dX0_ratingsClosed_32 : decode cX0_ratingsClosed 32 = .ok (.getfield 131, 3) := by decide +kernel
theorem dX0_ratingsClosed_35 : decode cX0_ratingsClosed 35 = .ok (.iadd, 1) := by decide +kernel
theorem dX0_ratingsClosed_36 : decode cX0_ratingsClosed 36 = .ok (.istore_n 1, 1) := by decide +kernel
theorem dX0_ratingsClosed_37 : decode cX0_ratingsClosed 37 = .ok (.iinc 2 1, 3) := by decide +kernel
theorem dX0_ratingsClosed_40 : decode cX0_ratingsClosed 40 = .ok (.goto (-36), 3) := by decide +kernel
theorem dX0_ratingsClosed_43 : decode cX0_ratingsClosed 43 = .ok (.iload_n 1, 1) := by decide +kernel
theorem dX0_ratingsClosed_44 : decode cX0_ratingsClosed 44 = .ok (.ireturn, 1) := by decide +kernel
theorem dX0_trips_0 : decode cX0_trips 0 = .ok (.iconst 0, 1) := by decide +kernel
theorem dX0_trips_1 : decode cX0_trips 1 = .ok (.istore_n 1, 1) := by decide +kernel
theorem dX0_trips_2 : decode cX0_trips 2 = .ok (.iconst 0, 1) := by decide +kernel
theorem dX0_trips_3 : decode cX0_trips 3 = .ok (.istore_n 2, 1) := by decide +kernel
theorem dX0_trips_4 : decode cX0_trips 4 = .ok (.iload_n 2, 1) := by decide +kernel
theorem dX0_trips_5 : decode cX0_trips 5 = .ok (.aload_n 0, 1) := by decide +kernel
theorem dX0_trips_6 : decode cX0_trips 6 = .ok (.getfield 11, 3) := by decide +kernel
theorem dX0_trips_9 : decode cX0_trips 9 = .ok (.arraylength, 1) := by decide +kernel
theorem dX0_trips_10 : decode cX0_trips 10 = .ok (.if_icmp .ge 21, 3) := by decide +kernel
theorem dX0_trips_13 : decode cX0_trips 13 = .ok (.iload_n 1, 1) := by decide +kernel
theorem dX0_trips_14 : decode cX0_trips 14 = .ok (.aload_n 0, 1) := by decide +kernel
theorem dX0_trips_15 : decode cX0_trips 15 = .ok (.getfield 11, 3) := by decide +kernel
theorem dX0_trips_18 : decode cX0_trips 18 = .ok (.iload_n 2, 1) := by decide +kernel
theorem dX0_trips_19 : decode cX0_trips 19 = .ok (.aaload, 1) := by decide +kernel
theorem dX0_trips_20 : decode cX0_trips 20 = .ok (.getfield 124, 3) := by decide +kernel
theorem dX0_trips_23 : decode cX0_trips 23 = .ok (.iadd, 1) := by decide +kernel
theorem dX0_trips_24 : decode cX0_trips 24 = .ok (.istore_n 1, 1) := by decide +kernel
theorem dX0_trips_25 : decode cX0_trips 25 = .ok (.iinc 2 1, 3) := by decide +kernel
theorem dX0_trips_28 : decode cX0_trips 28 = .ok (.goto (-24), 3) := by decide +kernel
theorem dX0_trips_31 : decode cX0_trips 31 = .ok (.iload_n 1, 1) := by decide +kernel
theorem dX0_trips_32 : decode cX0_trips 32 = .ok (.ireturn, 1) := by decide +kernel
theorem dX0_sheds_0 : decode cX0_sheds 0 = .ok (.iconst 0, 1) := by decide +kernel
theorem dX0_sheds_1 : decode cX0_sheds 1 = .ok (.istore_n 1, 1) := by decide +kernel
theorem dX0_sheds_2 : decode cX0_sheds 2 = .ok (.iconst 0, 1) := by decide +kernel
theorem dX0_sheds_3 : decode cX0_sheds 3 = .ok (.istore_n 2, 1) := by decide +kernel
theorem dX0_sheds_4 : decode cX0_sheds 4 = .ok (.iload_n 2, 1) := by decide +kernel
theorem dX0_sheds_5 : decode cX0_sheds 5 = .ok (.aload_n 0, 1) := by decide +kernel
theorem dX0_sheds_6 : decode cX0_sheds 6 = .ok (.getfield 19, 3) := by decide +kernel
theorem dX0_sheds_9 : decode cX0_sheds 9 = .ok (.arraylength, 1) := by decide +kernel
theorem dX0_sheds_10 : decode cX0_sheds 10 = .ok (.if_icmp .ge 21, 3) := by decide +kernel
theorem dX0_sheds_13 : decode cX0_sheds 13 = .ok (.iload_n 1, 1) := by decide +kernel
theorem dX0_sheds_14 : decode cX0_sheds 14 = .ok (.aload_n 0, 1) := by decide +kernel
theorem dX0_sheds_15 : decode cX0_sheds 15 = .ok (.getfield 19, 3) := by decide +kernel
theorem dX0_sheds_18 : decode cX0_sheds 18 = .ok (.iload_n 2, 1) := by decide +kernel
theorem dX0_sheds_19 : decode cX0_sheds 19 = .ok (.aaload, 1) := by decide +kernel
theorem dX0_sheds_20 : decode cX0_sheds 20 = .ok (.getfield 112, 3) := by decide +kernel
theorem dX0_sheds_23 : decode cX0_sheds 23 = .ok (.iadd, 1) := by decide +kernel
theorem dX0_sheds_24 : decode cX0_sheds 24 = .ok (.istore_n 1, 1) := by decide +kernel
theorem dX0_sheds_25 : decode cX0_sheds 25 = .ok (.iinc 2 1, 3) := by decide +kernel
theorem dX0_sheds_28 : decode cX0_sheds 28 = .ok (.goto (-24), 3) := by decide +kernel
theorem dX0_sheds_31 : decode cX0_sheds 31 = .ok (.iload_n 1, 1) := by decide +kernel
theorem dX0_sheds_32 : decode cX0_sheds 32 = .ok (.ireturn, 1) := by decide +kernel
