set_option maxRecDepth 100000 in
theorem ggX5_init_X0_init : GoodIn wsX5_init wsX0_init := goodIn_r _ [20, 21, 2, 3, 22, 23, 24, 25, 26, 27, 28, 29, 30, 31, 32, 33, 34, 35, 36, 37, 38, 39, 40, 41, 42, 54, 55, 56, 57, 58, 69, 70, 71, 72, 73, 74, 75, 76, 77, 78, 79, 80, 81] rfl (by decide +kernel)
set_option maxRecDepth 100000 in
theorem gX5_init_X0_init : GoodIn wsX5_init (wsX0_init) := ggX5_init_X0_init
set_option maxRecDepth 100000 in
theorem ggX5_init_X3_init : GoodIn wsX5_init wsX3_init := goodIn_r _ [45, 46, 2, 3, 47, 48, 5, 6, 49, 19, 20, 21, 22, 23, 24, 25, 26, 27, 28, 29, 30, 31, 32, 33, 34, 35, 36, 37, 38, 39, 40, 41, 42, 65, 66, 54, 55, 56, 57, 58, 69, 70, 71, 72, 73, 74, 75, 76, 77, 78, 79, 80, 81] rfl (by decide +kernel)
set_option maxRecDepth 100000 in
theorem gX5_init_X3_init : GoodIn wsX5_init (wsX3_init) := ggX5_init_X3_init
set_option maxRecDepth 100000 in
theorem ggX5_init_X4_init : GoodIn wsX5_init wsX4_init := goodIn_r _ [51, 52, 2, 3, 26, 53, 67, 68] rfl (by decide +kernel)
set_option maxRecDepth 100000 in
theorem gX5_init_X4_init_n31 : GoodIn wsX5_init (wsX4_init) := ggX5_init_X4_init
theorem dX5_init_0 : decode cX5_init 0 = .ok (.aload_n 0, 1) := by decide +kernel
theorem dX5_init_1 : decode cX5_init 1 = .ok (.invokespecial 1, 3) := by decide +kernel
theorem dX5_init_4 : decode cX5_init 4 = .ok (.aload_n 0, 1) := by decide +kernel
theorem dX5_init_5 : decode cX5_init 5 = .ok (.new 7, 3) := by decide +kernel
theorem dX5_init_8 : decode cX5_init 8 = .ok (.dup, 1) := by decide +kernel
theorem dX5_init_9 : decode cX5_init 9 = .ok (.invokespecial 9, 3) := by decide +kernel
theorem dX5_init_12 : decode cX5_init 12 = .ok (.putfield 10, 3) := by decide +kernel
theorem dX5_init_15 : decode cX5_init 15 = .ok (.aload_n 0, 1) := by decide +kernel
theorem dX5_init_16 : decode cX5_init 16 = .ok (.new 7, 3) := by decide +kernel
theorem dX5_init_19 : decode cX5_init 19 = .ok (.dup, 1) := by decide +kernel
theorem dX5_init_20 : decode cX5_init 20 = .ok (.invokespecial 9, 3) := by decide +kernel
theorem dX5_init_23 : decode cX5_init 23 = .ok (.putfield 16, 3) := by decide +kernel
theorem dX5_init_26 : decode cX5_init 26 = .ok (.aload_n 0, 1) := by decide +kernel
theorem dX5_init_27 : decode cX5_init 27 = .ok (.new 7, 3) := by decide +kernel
theorem dX5_init_30 : decode cX5_init 30 = .ok (.dup, 1) := by decide +kernel
theorem dX5_init_31 : decode cX5_init 31 = .ok (.invokespecial 9, 3) := by decide +kernel
theorem dX5_init_34 : decode cX5_init 34 = .ok (.putfield 19, 3) := by decide +kernel
theorem dX5_init_37 : decode cX5_init 37 = .ok (.aload_n 0, 1) := by decide +kernel
theorem dX5_init_38 : decode cX5_init 38 = .ok (.new 22, 3) := by decide +kernel
theorem dX5_init_41 : decode cX5_init 41 = .ok (.dup, 1) := by decide +kernel
theorem dX5_init_42 : decode cX5_init 42 = .ok (.invokespecial 24, 3) := by decide +kernel
theorem dX5_init_45 : decode cX5_init 45 = .ok (.putfield 25, 3) := by decide +kernel
theorem dX5_init_48 : decode cX5_init 48 = .ok (.aload_n 0, 1) := by decide +kernel
theorem dX5_init_49 : decode cX5_init 49 = .ok (.new 29, 3) := by decide +kernel
theorem dX5_init_52 : decode cX5_init 52 = .ok (.dup, 1) := by decide +kernel
theorem dX5_init_53 : decode cX5_init 53 = .ok (.invokespecial 31, 3) := by decide +kernel
theorem dX5_init_56 : decode cX5_init 56 = .ok (.putfield 32, 3) := by decide +kernel
theorem dX5_init_59 : decode cX5_init 59 = .ok (.return_, 1) := by decide +kernel
set_option maxRecDepth 100000 in
theorem ggX5_build_X5_needSet : GoodIn wsX5_build wsX5_needSet := goodIn_ca (goodIn_r _ [12, 13, 14, 15, 16, 11, 17] rfl (by decide +kernel)) (goodIn_sub (fun _ h => List.mem_cons_of_mem _ (List.mem_append_left _ (List.mem_append_right _ h))) (by decide +kernel))
set_option maxRecDepth 100000 in
theorem gX5_build_X5_needSet : GoodIn wsX5_build (va_wsS RX5 36 yX5_needSet wsX5_needSet) := goodIn_app (goodIn_r _ [9, 10, 11] rfl (by decide +kernel)) ggX5_build_X5_needSet
set_option maxRecDepth 100000 in
theorem ggX5_build_X5_needRange : GoodIn wsX5_build wsX5_needRange := goodIn_ca (goodIn_r _ [20, 21, 22] rfl (by decide +kernel)) (goodIn_sub (fun _ h => List.mem_cons_of_mem _ (List.mem_append_right _ h)) (by decide +kernel))
set_option maxRecDepth 100000 in
theorem gX5_build_X5_needRange : GoodIn wsX5_build (va_wsS RX5 40 yX5_needRange wsX5_needRange) := goodIn_app (goodIn_r _ [18, 19, 11] rfl (by decide +kernel)) ggX5_build_X5_needRange
set_option maxRecDepth 100000 in
theorem ggX5_build_X3_save : GoodIn wsX5_build wsX3_save := goodIn_r _ [27, 28, 29, 30, 31, 32, 26, 33, 34, 35, 36, 37, 38, 39, 40, 41, 42, 43, 44, 45, 46, 47, 48, 49, 50, 51, 52, 53, 54, 55, 56, 57, 58, 59, 60, 61, 62, 63, 64, 65, 66, 88, 89, 73, 74, 75, 76, 77, 78, 79, 80, 81, 82, 83, 84, 85, 86, 87, 90, 91, 92] rfl (by decide +kernel)
set_option maxRecDepth 100000 in
theorem gX5_build_X3_save : GoodIn wsX5_build (wsV RX5 61 RX3 yX3_save wsX3_save) := goodIn_app (goodIn_r _ [23, 24, 25, 26] rfl (by decide +kernel)) ggX5_build_X3_save
theorem dX5_build_0 : decode cX5_build 0 = .ok (.iload_n 1, 1) := by decide +kernel
theorem dX5_build_1 : decode cX5_build 1 = .ok (.invokestatic 36, 3) := by decide +kernel
theorem dX5_build_4 : decode cX5_build 4 = .ok (.iload_n 2, 1) := by decide +kernel
theorem dX5_build_5 : decode cX5_build 5 = .ok (.bipush 100, 2) := by decide +kernel
theorem dX5_build_7 : decode cX5_build 7 = .ok (.sipush 500, 3) := by decide +kernel
theorem dX5_build_10 : decode cX5_build 10 = .ok (.invokestatic 40, 3) := by decide +kernel
theorem dX5_build_13 : decode cX5_build 13 = .ok (.iload_n 3, 1) := by decide +kernel
theorem dX5_build_14 : decode cX5_build 14 = .ok (.bipush 100, 2) := by decide +kernel
theorem dX5_build_16 : decode cX5_build 16 = .ok (.sipush 400, 3) := by decide +kernel
theorem dX5_build_19 : decode cX5_build 19 = .ok (.invokestatic 40, 3) := by decide +kernel
theorem dX5_build_22 : decode cX5_build 22 = .ok (.aload_n 0, 1) := by decide +kernel
theorem dX5_build_23 : decode cX5_build 23 = .ok (.getfield 10, 3) := by decide +kernel
theorem dX5_build_26 : decode cX5_build 26 = .ok (.getfield 44, 3) := by decide +kernel
theorem dX5_build_29 : decode cX5_build 29 = .ok (.iload_n 1, 1) := by decide +kernel
theorem dX5_build_30 : decode cX5_build 30 = .ok (.aaload, 1) := by decide +kernel
theorem dX5_build_31 : decode cX5_build 31 = .ok (.astore 4, 2) := by decide +kernel
theorem dX5_build_33 : decode cX5_build 33 = .ok (.aload 4, 2) := by decide +kernel
theorem dX5_build_35 : decode cX5_build 35 = .ok (.getfield 48, 3) := by decide +kernel
theorem dX5_build_38 : decode cX5_build 38 = .ok (.ifCond .eq 13, 3) := by decide +kernel
theorem dX5_build_41 : decode cX5_build 41 = .ok (.new 54, 3) := by decide +kernel
theorem dX5_build_44 : decode cX5_build 44 = .ok (.dup, 1) := by decide +kernel
theorem dX5_build_45 : decode cX5_build 45 = .ok (.ldc 56, 2) := by decide +kernel
theorem dX5_build_47 : decode cX5_build 47 = .ok (.invokespecial 58, 3) := by decide +kernel
theorem dX5_build_50 : decode cX5_build 50 = .ok (.athrow, 1) := by decide +kernel
theorem dX5_build_51 : decode cX5_build 51 = .ok (.aload_n 0, 1) := by decide +kernel
theorem dX5_build_52 : decode cX5_build 52 = .ok (.getfield 25, 3) := by decide +kernel
theorem dX5_build_55 : decode cX5_build 55 = .ok (.aload_n 0, 1) := by decide +kernel
theorem dX5_build_56 : decode cX5_build 56 = .ok (.getfield 10, 3) := by decide +kernel
theorem dX5_build_59 : decode cX5_build 59 = .ok (.invokevirtual 61, 3) := by decide +kernel
theorem dX5_build_62 : decode cX5_build 62 = .ok (.aload 4, 2) := by decide +kernel
theorem dX5_build_64 : decode cX5_build 64 = .ok (.getfield 65, 3) := by decide +kernel
theorem dX5_build_67 : decode cX5_build 67 = .ok (.istore 5, 2) := by decide +kernel
theorem dX5_build_69 : decode cX5_build 69 = .ok (.aload 4, 2) := by decide +kernel
theorem dX5_build_71 : decode cX5_build 71 = .ok (.iload_n 2, 1) := by decide +kernel
theorem dX5_build_72 : decode cX5_build 72 = .ok (.putfield 65, 3) := by decide +kernel
theorem dX5_build_75 : decode cX5_build 75 = .ok (.aload 4, 2) := by decide +kernel
theorem dX5_build_77 : decode cX5_build 77 = .ok (.iload_n 3, 1) := by decide +kernel
theorem dX5_build_78 : decode cX5_build 78 = .ok (.putfield 69, 3) := by decide +kernel
theorem dX5_build_81 : decode cX5_build 81 = .ok (.iload 5, 2) := by decide +kernel
theorem dX5_build_83 : decode cX5_build 83 = .ok (.ireturn, 1) := by decide +kernel
set_option maxRecDepth 100000 in
theorem ggX5_speed_X5_needSet : GoodIn wsX5_speed wsX5_needSet := goodIn_ca (goodIn_r _ [8, 9, 10, 11, 12, 7, 13] rfl (by decide +kernel)) (goodIn_sub (fun _ h => List.mem_cons_of_mem _ (List.mem_append_left _ (List.mem_append_right _ h))) (by decide +kernel))
set_option maxRecDepth 100000 in
theorem gX5_speed_X5_needSet : GoodIn wsX5_speed (va_wsS RX5 36 yX5_needSet wsX5_needSet) := goodIn_app (goodIn_r _ [5, 6, 7] rfl (by decide +kernel)) ggX5_speed_X5_needSet
set_option maxRecDepth 100000 in
theorem ggX5_speed_X5_needRange : GoodIn wsX5_speed wsX5_needRange := goodIn_ca (goodIn_r _ [16, 17, 18] rfl (by decide +kernel)) (goodIn_sub (fun _ h => List.mem_cons_of_mem _ (List.mem_append_right _ h)) (by decide +kernel))
set_option maxRecDepth 100000 in
theorem gX5_speed_X5_needRange : GoodIn wsX5_speed (va_wsS RX5 40 yX5_needRange wsX5_needRange) := goodIn_app (goodIn_r _ [14, 15, 7] rfl (by decide +kernel)) ggX5_speed_X5_needRange
set_option maxRecDepth 100000 in
theorem ggX5_speed_X3_save : GoodIn wsX5_speed wsX3_save := goodIn_r _ [23, 24, 25, 26, 27, 28, 22, 29, 30, 31, 32, 33, 34, 35, 36, 37, 38, 39, 40, 41, 42, 43, 44, 45, 46, 47, 48, 49, 50, 51, 52, 53, 54, 55, 56, 57, 58, 59, 60, 61, 62, 84, 85, 69, 70, 71, 72, 73, 74, 75, 76, 77, 78, 79, 80, 81, 82, 83, 86, 87, 88] rfl (by decide +kernel)
set_option maxRecDepth 100000 in
theorem gX5_speed_X3_save : GoodIn wsX5_speed (wsV RX5 61 RX3 yX3_save wsX3_save) := goodIn_app (goodIn_r _ [19, 20, 21, 22] rfl (by decide +kernel)) ggX5_speed_X3_save
theorem dX5_speed_0 : decode cX5_speed 0 = .ok (.iload_n 1, 1) := by decide +kernel
theorem dX5_speed_1 : decode cX5_speed 1 = .ok (.invokestatic 36, 3) := by decide +kernel
theorem dX5_speed_4 : decode cX5_speed 4 = .ok (.iload_n 2, 1) := by decide +kernel
theorem dX5_speed_5 : decode cX5_speed 5 = .ok (.sipush 4700, 3) := by decide +kernel
theorem dX5_speed_8 : decode cX5_speed 8 = .ok (.sipush 5300, 3) := by decide +kernel
theorem dX5_speed_11 : decode cX5_speed 11 = .ok (.invokestatic 40, 3) := by decide +kernel
theorem dX5_speed_14 : decode cX5_speed 14 = .ok (.aload_n 0, 1) := by decide +kernel
theorem dX5_speed_15 : decode cX5_speed 15 = .ok (.getfield 25, 3) := by decide +kernel
theorem dX5_speed_18 : decode cX5_speed 18 = .ok (.aload_n 0, 1) := by decide +kernel
theorem dX5_speed_19 : decode cX5_speed 19 = .ok (.getfield 10, 3) := by decide +kernel
theorem dX5_speed_22 : decode cX5_speed 22 = .ok (.invokevirtual 61, 3) := by decide +kernel
theorem dX5_speed_25 : decode cX5_speed 25 = .ok (.aload_n 0, 1) := by decide +kernel
theorem dX5_speed_26 : decode cX5_speed 26 = .ok (.getfield 10, 3) := by decide +kernel
theorem dX5_speed_29 : decode cX5_speed 29 = .ok (.getfield 44, 3) := by decide +kernel
theorem dX5_speed_32 : decode cX5_speed 32 = .ok (.iload_n 1, 1) := by decide +kernel
theorem dX5_speed_33 : decode cX5_speed 33 = .ok (.aaload, 1) := by decide +kernel
theorem dX5_speed_34 : decode cX5_speed 34 = .ok (.getfield 72, 3) := by decide +kernel
theorem dX5_speed_37 : decode cX5_speed 37 = .ok (.istore_n 3, 1) := by decide +kernel
theorem dX5_speed_38 : decode cX5_speed 38 = .ok (.aload_n 0, 1) := by decide +kernel
theorem dX5_speed_39 : decode cX5_speed 39 = .ok (.getfield 10, 3) := by decide +kernel
theorem dX5_speed_42 : decode cX5_speed 42 = .ok (.getfield 44, 3) := by decide +kernel
theorem dX5_speed_45 : decode cX5_speed 45 = .ok (.iload_n 1, 1) := by decide +kernel
theorem dX5_speed_46 : decode cX5_speed 46 = .ok (.aaload, 1) := by decide +kernel
theorem dX5_speed_47 : decode cX5_speed 47 = .ok (.iload_n 2, 1) := by decide +kernel
theorem dX5_speed_48 : decode cX5_speed 48 = .ok (.putfield 72, 3) := by decide +kernel
theorem dX5_speed_51 : decode cX5_speed 51 = .ok (.iload_n 3, 1) := by decide +kernel
theorem dX5_speed_52 : decode cX5_speed 52 = .ok (.ireturn, 1) := by decide +kernel
set_option maxRecDepth 100000 in
theorem ggX5_run_X5_needSet : GoodIn wsX5_run wsX5_needSet := goodIn_ca (goodIn_r _ [9, 10, 11, 12, 13, 8, 14] rfl (by decide +kernel)) (goodIn_sub (fun _ h => List.mem_cons_of_mem _ (List.mem_append_right _ h)) (by decide +kernel))
set_option maxRecDepth 100000 in
theorem gX5_run_X5_needSet : GoodIn wsX5_run (va_wsS RX5 36 yX5_needSet wsX5_needSet) := goodIn_app (goodIn_r _ [6, 7, 8] rfl (by decide +kernel)) ggX5_run_X5_needSet
set_option maxRecDepth 100000 in
theorem ggX5_run_X1_canStart : GoodIn wsX5_run wsX1_canStart := goodIn_r _ [19, 20, 89, 90, 91, 92, 93, 94, 95, 96, 97, 98] rfl (by decide +kernel)
set_option maxRecDepth 100000 in
theorem gX5_run_X1_canStart : GoodIn wsX5_run (wsV RX5 75 RX1 yX1_canStart wsX1_canStart) := goodIn_app (goodIn_r _ [15, 16, 17, 18] rfl (by decide +kernel)) ggX5_run_X1_canStart
set_option maxRecDepth 100000 in
theorem ggX5_run_X3_save : GoodIn wsX5_run wsX3_save := goodIn_r _ [25, 26, 27, 28, 29, 30, 24, 31, 32, 33, 34, 35, 36, 37, 38, 39, 40, 41, 42, 43, 44, 18, 45, 46, 47, 48, 20, 49, 50, 51, 52, 53, 54, 55, 56, 57, 58, 59, 60, 61, 62, 99, 100, 84, 85, 86, 87, 88, 89, 90, 91, 92, 93, 94, 95, 96, 97, 98, 101, 102, 103] rfl (by decide +kernel)
set_option maxRecDepth 100000 in
theorem gX5_run_X3_save : GoodIn wsX5_run (wsV RX5 61 RX3 yX3_save wsX3_save) := goodIn_app (goodIn_r _ [21, 22, 23, 24] rfl (by decide +kernel)) ggX5_run_X3_save
set_option maxRecDepth 100000 in
theorem ggX5_run_X1_start : GoodIn wsX5_run wsX1_start := goodIn_r _ [66, 20, 67, 68, 69, 18, 70, 50, 51, 52, 89, 90, 91, 92, 93, 94, 95, 96, 97, 98] rfl (by decide +kernel)
set_option maxRecDepth 100000 in
theorem gX5_run_X1_start : GoodIn wsX5_run (wsV RX5 81 RX1 yX1_start wsX1_start) := goodIn_app (goodIn_r _ [63, 64, 65, 18] rfl (by decide +kernel)) ggX5_run_X1_start
set_option maxRecDepth 100000 in
theorem ggX5_run_X0_running : GoodIn wsX5_run wsX0_running := goodIn_r _ [74, 37, 75, 76, 8, 77, 84, 85, 86, 87, 88, 89, 90, 91, 92, 93, 94, 95, 96, 97, 98] rfl (by decide +kernel)
set_option maxRecDepth 100000 in
theorem gX5_run_X0_running : GoodIn wsX5_run (wsV RX5 84 RX0 yX0_running wsX0_running) := goodIn_app (goodIn_r _ [71, 72, 73, 35] rfl (by decide +kernel)) ggX5_run_X0_running
theorem dX5_run_0 : decode cX5_run 0 = .ok (.iload_n 1, 1) := by decide +kernel
theorem dX5_run_1 : decode cX5_run 1 = .ok (.invokestatic 36, 3) := by decide +kernel
theorem dX5_run_4 : decode cX5_run 4 = .ok (.aload_n 0, 1) := by decide +kernel
theorem dX5_run_5 : decode cX5_run 5 = .ok (.getfield 10, 3) := by decide +kernel
theorem dX5_run_8 : decode cX5_run 8 = .ok (.getfield 44, 3) := by decide +kernel
theorem dX5_run_11 : decode cX5_run 11 = .ok (.iload_n 1, 1) := by decide +kernel
theorem dX5_run_12 : decode cX5_run 12 = .ok (.aaload, 1) := by decide +kernel
theorem dX5_run_13 : decode cX5_run 13 = .ok (.invokevirtual 75, 3) := by decide +kernel
theorem dX5_run_16 : decode cX5_run 16 = .ok (.ifCond .ne 13, 3) := by decide +kernel
theorem dX5_run_19 : decode cX5_run 19 = .ok (.new 54, 3) := by decide +kernel
theorem dX5_run_22 : decode cX5_run 22 = .ok (.dup, 1) := by decide +kernel
theorem dX5_run_23 : decode cX5_run 23 = .ok (.ldc 79, 2) := by decide +kernel
theorem dX5_run_25 : decode cX5_run 25 = .ok (.invokespecial 58, 3) := by decide +kernel
theorem dX5_run_28 : decode cX5_run 28 = .ok (.athrow, 1) := by decide +kernel
theorem dX5_run_29 : decode cX5_run 29 = .ok (.aload_n 0, 1) := by decide +kernel
theorem dX5_run_30 : decode cX5_run 30 = .ok (.getfield 25, 3) := by decide +kernel
theorem dX5_run_33 : decode cX5_run 33 = .ok (.aload_n 0, 1) := by decide +kernel
theorem dX5_run_34 : decode cX5_run 34 = .ok (.getfield 10, 3) := by decide +kernel
theorem dX5_run_37 : decode cX5_run 37 = .ok (.invokevirtual 61, 3) := by decide +kernel
theorem dX5_run_40 : decode cX5_run 40 = .ok (.aload_n 0, 1) := by decide +kernel
theorem dX5_run_41 : decode cX5_run 41 = .ok (.getfield 10, 3) := by decide +kernel
theorem dX5_run_44 : decode cX5_run 44 = .ok (.getfield 44, 3) := by decide +kernel
theorem dX5_run_47 : decode cX5_run 47 = .ok (.iload_n 1, 1) := by decide +kernel
theorem dX5_run_48 : decode cX5_run 48 = .ok (.aaload, 1) := by decide +kernel
theorem dX5_run_49 : decode cX5_run 49 = .ok (.invokevirtual 81, 3) := by decide +kernel
theorem dX5_run_52 : decode cX5_run 52 = .ok (.aload_n 0, 1) := by decide +kernel
theorem dX5_run_53 : decode cX5_run 53 = .ok (.getfield 10, 3) := by decide +kernel
theorem dX5_run_56 : decode cX5_run 56 = .ok (.invokevirtual 84, 3) := by decide +kernel
theorem dX5_run_59 : decode cX5_run 59 = .ok (.ireturn, 1) := by decide +kernel
set_option maxRecDepth 100000 in
theorem ggX5_halt_X5_needSet : GoodIn wsX5_halt wsX5_needSet := goodIn_ca (goodIn_r _ [9, 10, 11, 12, 13, 8, 14] rfl (by decide +kernel)) (goodIn_sub (fun _ h => List.mem_cons_of_mem _ (List.mem_append_right _ h)) (by decide +kernel))
set_option maxRecDepth 100000 in
theorem gX5_halt_X5_needSet : GoodIn wsX5_halt (va_wsS RX5 36 yX5_needSet wsX5_needSet) := goodIn_app (goodIn_r _ [6, 7, 8] rfl (by decide +kernel)) ggX5_halt_X5_needSet
set_option maxRecDepth 100000 in
theorem ggX5_halt_X1_canStop : GoodIn wsX5_halt wsX1_canStop := goodIn_r _ [19, 20, 21, 89, 90, 91, 92, 93, 94, 95, 96, 97, 98] rfl (by decide +kernel)
set_option maxRecDepth 100000 in
theorem gX5_halt_X1_canStop : GoodIn wsX5_halt (wsV RX5 88 RX1 yX1_canStop wsX1_canStop) := goodIn_app (goodIn_r _ [15, 16, 17, 18] rfl (by decide +kernel)) ggX5_halt_X1_canStop
set_option maxRecDepth 100000 in
theorem ggX5_halt_X3_save : GoodIn wsX5_halt wsX3_save := goodIn_r _ [26, 27, 28, 29, 30, 31, 25, 32, 33, 34, 35, 36, 37, 38, 39, 40, 41, 42, 43, 44, 45, 18, 46, 47, 48, 49, 20, 21, 50, 51, 52, 53, 54, 55, 56, 57, 58, 59, 60, 61, 62, 99, 100, 84, 85, 86, 87, 88, 89, 90, 91, 92, 93, 94, 95, 96, 97, 98, 101, 102, 103] rfl (by decide +kernel)
set_option maxRecDepth 100000 in
theorem gX5_halt_X3_save : GoodIn wsX5_halt (wsV RX5 61 RX3 yX3_save wsX3_save) := goodIn_app (goodIn_r _ [22, 23, 24, 25] rfl (by decide +kernel)) ggX5_halt_X3_save
set_option maxRecDepth 100000 in
theorem ggX5_halt_X1_stop : GoodIn wsX5_halt wsX1_stop := goodIn_r _ [66, 20, 67, 68, 69, 18, 70, 50, 51, 52, 89, 90, 91, 92, 93, 94, 95, 96, 97, 98] rfl (by decide +kernel)
set_option maxRecDepth 100000 in
theorem gX5_halt_X1_stop : GoodIn wsX5_halt (wsV RX5 93 RX1 yX1_stop wsX1_stop) := goodIn_app (goodIn_r _ [63, 64, 65, 18] rfl (by decide +kernel)) ggX5_halt_X1_stop
set_option maxRecDepth 100000 in
theorem ggX5_halt_X0_running : GoodIn wsX5_halt wsX0_running := goodIn_r _ [74, 38, 75, 76, 8, 77, 84, 85, 86, 87, 88, 89, 90, 91, 92, 93, 94, 95, 96, 97, 98] rfl (by decide +kernel)
set_option maxRecDepth 100000 in
theorem gX5_halt_X0_running : GoodIn wsX5_halt (wsV RX5 84 RX0 yX0_running wsX0_running) := goodIn_app (goodIn_r _ [71, 72, 73, 36] rfl (by decide +kernel)) ggX5_halt_X0_running
theorem dX5_halt_0 : decode cX5_halt 0 = .ok (.iload_n 1, 1) := by decide +kernel
theorem dX5_halt_1 : decode cX5_halt 1 = .ok (.invokestatic 36, 3) := by decide +kernel
theorem dX5_halt_4 : decode cX5_halt 4 = .ok (.aload_n 0, 1) := by decide +kernel
theorem dX5_halt_5 : decode cX5_halt 5 = .ok (.getfield 10, 3) := by decide +kernel
theorem dX5_halt_8 : decode cX5_halt 8 = .ok (.getfield 44, 3) := by decide +kernel
theorem dX5_halt_11 : decode cX5_halt 11 = .ok (.iload_n 1, 1) := by decide +kernel
theorem dX5_halt_12 : decode cX5_halt 12 = .ok (.aaload, 1) := by decide +kernel
theorem dX5_halt_13 : decode cX5_halt 13 = .ok (.invokevirtual 88, 3) := by decide +kernel
theorem dX5_halt_16 : decode cX5_halt 16 = .ok (.ifCond .ne 13, 3) := by decide +kernel
theorem dX5_halt_19 : decode cX5_halt 19 = .ok (.new 54, 3) := by decide +kernel
theorem dX5_halt_22 : decode cX5_halt 22 = .ok (.dup, 1) := by decide +kernel
theorem dX5_halt_23 : decode cX5_halt 23 = .ok (.ldc 91, 2) := by decide +kernel
theorem dX5_halt_25 : decode cX5_halt 25 = .ok (.invokespecial 58, 3) := by decide +kernel
theorem dX5_halt_28 : decode cX5_halt 28 = .ok (.athrow, 1) := by decide +kernel
theorem dX5_halt_29 : decode cX5_halt 29 = .ok (.aload_n 0, 1) := by decide +kernel
theorem dX5_halt_30 : decode cX5_halt 30 = .ok (.getfield 25, 3) := by decide +kernel
theorem dX5_halt_33 : decode cX5_halt 33 = .ok (.aload_n 0, 1) := by decide +kernel
theorem dX5_halt_34 : decode cX5_halt 34 = .ok (.getfield 10, 3) := by decide +kernel
theorem dX5_halt_37 : decode cX5_halt 37 = .ok (.invokevirtual 61, 3) := by decide +kernel
theorem dX5_halt_40 : decode cX5_halt 40 = .ok (.aload_n 0, 1) := by decide +kernel
theorem dX5_halt_41 : decode cX5_halt 41 = .ok (.getfield 10, 3) := by decide +kernel
theorem dX5_halt_44 : decode cX5_halt 44 = .ok (.getfield 44, 3) := by decide +kernel
theorem dX5_halt_47 : decode cX5_halt 47 = .ok (.iload_n 1, 1) := by decide +kernel
theorem dX5_halt_48 : decode cX5_halt 48 = .ok (.aaload, 1) := by decide +kernel
theorem dX5_halt_49 : decode cX5_halt 49 = .ok (.invokevirtual 93, 3) := by decide +kernel
theorem dX5_halt_52 : decode cX5_halt 52 = .ok (.aload_n 0, 1) := by decide +kernel
theorem dX5_halt_53 : decode cX5_halt 53 = .ok (.getfield 10, 3) := by decide +kernel
theorem dX5_halt_56 : decode cX5_halt 56 = .ok (.invokevirtual 84, 3) := by decide +kernel
theorem dX5_halt_59 : decode cX5_halt 59 = .ok (.ireturn, 1) := by decide +kernel
set_option maxRecDepth 100000 in
theorem ggX5_close_X5_needSet : GoodIn wsX5_close wsX5_needSet := goodIn_ca (goodIn_r _ [9, 10, 11, 12, 13, 8, 14] rfl (by decide +kernel)) (goodIn_sub (fun _ h => List.mem_cons_of_mem _ (List.mem_append_right _ h)) (by decide +kernel))
set_option maxRecDepth 100000 in
theorem gX5_close_X5_needSet : GoodIn wsX5_close (va_wsS RX5 36 yX5_needSet wsX5_needSet) := goodIn_app (goodIn_r _ [6, 7, 8] rfl (by decide +kernel)) ggX5_close_X5_needSet
set_option maxRecDepth 100000 in
theorem ggX5_close_X0_whyNotClosed : GoodIn wsX5_close wsX0_whyNotClosed := goodIn_r _ [19, 20, 21, 22, 23, 24, 25, 26, 27, 28, 29, 30, 31, 18, 32, 33, 34, 35, 36, 37, 38, 39, 40, 41, 42, 43, 44, 45, 46, 47, 48, 49, 50, 51, 52, 53, 54, 55, 56, 57, 58, 59, 60, 61, 62, 63, 64, 114, 115, 116, 117, 118, 119, 120, 121, 122, 123, 124, 125, 126, 127, 128, 129, 130, 131] rfl (by decide +kernel)
set_option maxRecDepth 100000 in
theorem gX5_close_X0_whyNotClosed : GoodIn wsX5_close (wsV RX5 96 RX0 yX0_whyNotClosed wsX0_whyNotClosed) := goodIn_app (goodIn_r _ [15, 16, 17, 18] rfl (by decide +kernel)) ggX5_close_X0_whyNotClosed
set_option maxRecDepth 100000 in
theorem ggX5_close_X3_save : GoodIn wsX5_close wsX3_save := goodIn_r _ [69, 70, 71, 72, 73, 74, 68, 75, 76, 77, 78, 18, 79, 20, 41, 28, 80, 81, 82, 83, 84, 51, 85, 56, 54, 55, 86, 53, 61, 87, 88, 89, 90, 91, 92, 93, 94, 95, 96, 97, 98, 132, 133, 114, 115, 116, 117, 118, 119, 120, 121, 122, 123, 124, 125, 126, 127, 128, 129, 130, 131] rfl (by decide +kernel)
set_option maxRecDepth 100000 in
theorem gX5_close_X3_save : GoodIn wsX5_close (wsV RX5 61 RX3 yX3_save wsX3_save) := goodIn_app (goodIn_r _ [65, 66, 67, 68] rfl (by decide +kernel)) ggX5_close_X3_save
set_option maxRecDepth 100000 in
theorem ggX5_close_X1_closeBreaker : GoodIn wsX5_close wsX1_closeBreaker := goodIn_r _ [102, 53, 103, 104, 105, 51, 106, 61, 87, 88, 119, 120, 121, 122, 123, 124, 125, 126, 127, 128] rfl (by decide +kernel)
set_option maxRecDepth 100000 in
theorem gX5_close_X1_closeBreaker : GoodIn wsX5_close (wsV RX5 102 RX1 yX1_closeBreaker wsX1_closeBreaker) := goodIn_app (goodIn_r _ [99, 100, 101, 51] rfl (by decide +kernel)) ggX5_close_X1_closeBreaker
set_option maxRecDepth 100000 in
theorem ggX5_close_X0_frequency : GoodIn wsX5_close wsX0_frequency := goodIn_r _ [36, 29, 30, 31, 18, 32, 20, 22, 37, 38, 39, 40, 41, 42, 43, 44, 45, 46, 47, 48, 49, 50, 51, 52, 53, 54, 55, 56, 114, 115, 116, 117, 118, 119, 120, 121, 122, 123, 124, 125, 126, 127, 128, 129, 130, 131] rfl (by decide +kernel)
set_option maxRecDepth 100000 in
theorem gX5_close_X0_frequency : GoodIn wsX5_close (wsV RX5 105 RX0 yX0_frequency wsX0_frequency) := goodIn_app (goodIn_r _ [107, 34, 35, 18] rfl (by decide +kernel)) ggX5_close_X0_frequency
theorem dX5_close_0 : decode cX5_close 0 = .ok (.iload_n 1, 1) := by decide +kernel
theorem dX5_close_1 : decode cX5_close 1 = .ok (.invokestatic 36, 3) := by decide +kernel
theorem dX5_close_4 : decode cX5_close 4 = .ok (.aload_n 0, 1) := by decide +kernel
theorem dX5_close_5 : decode cX5_close 5 = .ok (.getfield 10, 3) := by decide +kernel
theorem dX5_close_8 : decode cX5_close 8 = .ok (.iload_n 1, 1) := by decide +kernel
theorem dX5_close_9 : decode cX5_close 9 = .ok (.invokevirtual 96, 3) := by decide +kernel
theorem dX5_close_12 : decode cX5_close 12 = .ok (.ifCond .eq 13, 3) := by decide +kernel
theorem dX5_close_15 : decode cX5_close 15 = .ok (.new 54, 3) := by decide +kernel
theorem dX5_close_18 : decode cX5_close 18 = .ok (.dup, 1) := by decide +kernel
theorem dX5_close_19 : decode cX5_close 19 = .ok (.ldc 100, 2) := by decide +kernel
theorem dX5_close_21 : decode cX5_close 21 = .ok (.invokespecial 58, 3) := by decide +kernel
theorem dX5_close_24 : decode cX5_close 24 = .ok (.athrow, 1) := by decide +kernel
theorem dX5_close_25 : decode cX5_close 25 = .ok (.aload_n 0, 1) := by decide +kernel
theorem dX5_close_26 : decode cX5_close 26 = .ok (.getfield 25, 3) := by decide +kernel
theorem dX5_close_29 : decode cX5_close 29 = .ok (.aload_n 0, 1) := by decide +kernel
theorem dX5_close_30 : decode cX5_close 30 = .ok (.getfield 10, 3) := by decide +kernel
theorem dX5_close_33 : decode cX5_close 33 = .ok (.invokevirtual 61, 3) := by decide +kernel
theorem dX5_close_36 : decode cX5_close 36 = .ok (.aload_n 0, 1) := by decide +kernel
theorem dX5_close_37 : decode cX5_close 37 = .ok (.getfield 10, 3) := by decide +kernel
theorem dX5_close_40 : decode cX5_close 40 = .ok (.getfield 44, 3) := by decide +kernel
theorem dX5_close_43 : decode cX5_close 43 = .ok (.iload_n 1, 1) := by decide +kernel
theorem dX5_close_44 : decode cX5_close 44 = .ok (.aaload, 1) := by decide +kernel
theorem dX5_close_45 : decode cX5_close 45 = .ok (.invokevirtual 102, 3) := by decide +kernel
theorem dX5_close_48 : decode cX5_close 48 = .ok (.aload_n 0, 1) := by decide +kernel
theorem dX5_close_49 : decode cX5_close 49 = .ok (.getfield 10, 3) := by decide +kernel
theorem dX5_close_52 : decode cX5_close 52 = .ok (.invokevirtual 105, 3) := by decide +kernel
theorem dX5_close_55 : decode cX5_close 55 = .ok (.ireturn, 1) := by decide +kernel
set_option maxRecDepth 100000 in
theorem ggX5_open_X5_needSet : GoodIn wsX5_open wsX5_needSet := goodIn_ca (goodIn_r _ [10, 11, 12, 13, 14, 9, 15] rfl (by decide +kernel)) (goodIn_sub (fun _ h => List.mem_cons_of_mem _ (List.mem_append_right _ h)) (by decide +kernel))
set_option maxRecDepth 100000 in
theorem gX5_open_X5_needSet : GoodIn wsX5_open (va_wsS RX5 36 yX5_needSet wsX5_needSet) := goodIn_app (goodIn_r _ [7, 8, 9] rfl (by decide +kernel)) ggX5_open_X5_needSet
set_option maxRecDepth 100000 in
theorem ggX5_open_X3_save : GoodIn wsX5_open wsX3_save := goodIn_r _ [20, 21, 22, 23, 24, 25, 19, 26, 27, 28, 29, 30, 31, 32, 33, 34, 35, 36, 37, 38, 39, 40, 41, 42, 43, 44, 45, 46, 47, 48, 49, 50, 51, 52, 53, 54, 55, 56, 57, 58, 59, 112, 113, 97, 98, 99, 100, 101, 102, 103, 104, 105, 106, 107, 108, 109, 110, 111, 114, 115, 116] rfl (by decide +kernel)
set_option maxRecDepth 100000 in
theorem gX5_open_X3_save : GoodIn wsX5_open (wsV RX5 61 RX3 yX3_save wsX3_save) := goodIn_app (goodIn_r _ [16, 17, 18, 19] rfl (by decide +kernel)) ggX5_open_X3_save
set_option maxRecDepth 100000 in
theorem ggX5_open_X1_openBreaker : GoodIn wsX5_open wsX1_openBreaker := goodIn_r _ [63, 46, 64, 65, 66, 40, 67, 47, 48, 49, 102, 103, 104, 105, 106, 107, 108, 109, 110, 111] rfl (by decide +kernel)
set_option maxRecDepth 100000 in
theorem gX5_open_X1_openBreaker : GoodIn wsX5_open (wsV RX5 113 RX1 yX1_openBreaker wsX1_openBreaker) := goodIn_app (goodIn_r _ [60, 61, 62, 40] rfl (by decide +kernel)) ggX5_open_X1_openBreaker
set_option maxRecDepth 100000 in
theorem ggX5_open_X0_frequency : GoodIn wsX5_open wsX0_frequency := goodIn_r _ [71, 72, 73, 74, 30, 75, 32, 76, 77, 78, 79, 80, 33, 81, 82, 83, 84, 85, 86, 87, 88, 89, 40, 90, 46, 43, 44, 42, 97, 98, 99, 100, 101, 102, 103, 104, 105, 106, 107, 108, 109, 110, 111, 114, 115, 116] rfl (by decide +kernel)
set_option maxRecDepth 100000 in
theorem gX5_open_X0_frequency : GoodIn wsX5_open (wsV RX5 105 RX0 yX0_frequency wsX0_frequency) := goodIn_app (goodIn_r _ [68, 69, 70, 30] rfl (by decide +kernel)) ggX5_open_X0_frequency
theorem dX5_open_0 : decode cX5_open 0 = .ok (.iload_n 1, 1) := by decide +kernel
theorem dX5_open_1 : decode cX5_open 1 = .ok (.invokestatic 36, 3) := by decide +kernel
theorem dX5_open_4 : decode cX5_open 4 = .ok (.aload_n 0, 1) := by decide +kernel
theorem dX5_open_5 : decode cX5_open 5 = .ok (.getfield 10, 3) := by decide +kernel
theorem dX5_open_8 : decode cX5_open 8 = .ok (.getfield 44, 3) := by decide +kernel
theorem dX5_open_11 : decode cX5_open 11 = .ok (.iload_n 1, 1) := by decide +kernel
theorem dX5_open_12 : decode cX5_open 12 = .ok (.aaload, 1) := by decide +kernel
theorem dX5_open_13 : decode cX5_open 13 = .ok (.getfield 108, 3) := by decide +kernel
theorem dX5_open_16 : decode cX5_open 16 = .ok (.ifCond .ne 13, 3) := by decide +kernel
theorem dX5_open_19 : decode cX5_open 19 = .ok (.new 54, 3) := by decide +kernel
theorem dX5_open_22 : decode cX5_open 22 = .ok (.dup, 1) := by decide +kernel
theorem dX5_open_23 : decode cX5_open 23 = .ok (.ldc 111, 2) := by decide +kernel
theorem dX5_open_25 : decode cX5_open 25 = .ok (.invokespecial 58, 3) := by decide +kernel
theorem dX5_open_28 : decode cX5_open 28 = .ok (.athrow, 1) := by decide +kernel
theorem dX5_open_29 : decode cX5_open 29 = .ok (.aload_n 0, 1) := by decide +kernel
theorem dX5_open_30 : decode cX5_open 30 = .ok (.getfield 25, 3) := by decide +kernel
theorem dX5_open_33 : decode cX5_open 33 = .ok (.aload_n 0, 1) := by decide +kernel
theorem dX5_open_34 : decode cX5_open 34 = .ok (.getfield 10, 3) := by decide +kernel
theorem dX5_open_37 : decode cX5_open 37 = .ok (.invokevirtual 61, 3) := by decide +kernel
theorem dX5_open_40 : decode cX5_open 40 = .ok (.aload_n 0, 1) := by decide +kernel
theorem dX5_open_41 : decode cX5_open 41 = .ok (.getfield 10, 3) := by decide +kernel
theorem dX5_open_44 : decode cX5_open 44 = .ok (.getfield 44, 3) := by decide +kernel
theorem dX5_open_47 : decode cX5_open 47 = .ok (.iload_n 1, 1) := by decide +kernel
theorem dX5_open_48 : decode cX5_open 48 = .ok (.aaload, 1) := by decide +kernel
theorem dX5_open_49 : decode cX5_open 49 = .ok (.invokevirtual 113, 3) := by decide +kernel
theorem dX5_open_52 : decode cX5_open 52 = .ok (.aload_n 0, 1) := by decide +kernel
theorem dX5_open_53 : decode cX5_open 53 = .ok (.getfield 10, 3) := by decide +kernel
theorem dX5_open_56 : decode cX5_open 56 = .ok (.invokevirtual 105, 3) := by decide +kernel
theorem dX5_open_59 : decode cX5_open 59 = .ok (.ireturn, 1) := by decide +kernel
set_option maxRecDepth 100000 in
theorem ggX5_load_X5_needFeeder : GoodIn wsX5_load wsX5_needFeeder := goodIn_ca (goodIn_r _ [8, 9, 10, 11, 12, 7, 13] rfl (by decide +kernel)) (goodIn_sub (fun _ h => List.mem_cons_of_mem _ (List.mem_append_left _ (List.mem_append_right _ h))) (by decide +kernel))
set_option maxRecDepth 100000 in
theorem gX5_load_X5_needFeeder : GoodIn wsX5_load (va_wsS RX5 116 yX5_needFeeder wsX5_needFeeder) := goodIn_app (goodIn_r _ [5, 6, 7] rfl (by decide +kernel)) ggX5_load_X5_needFeeder
set_option maxRecDepth 100000 in
theorem ggX5_load_X5_needRange : GoodIn wsX5_load wsX5_needRange := goodIn_ca (goodIn_r _ [16, 17, 18] rfl (by decide +kernel)) (goodIn_sub (fun _ h => List.mem_cons_of_mem _ (List.mem_append_right _ h)) (by decide +kernel))
set_option maxRecDepth 100000 in
theorem gX5_load_X5_needRange : GoodIn wsX5_load (va_wsS RX5 40 yX5_needRange wsX5_needRange) := goodIn_app (goodIn_r _ [14, 15, 7] rfl (by decide +kernel)) ggX5_load_X5_needRange
set_option maxRecDepth 100000 in
theorem ggX5_load_X3_save : GoodIn wsX5_load wsX3_save := goodIn_r _ [23, 24, 25, 26, 27, 28, 22, 29, 30, 31, 32, 33, 34, 35, 36, 37, 38, 39, 40, 41, 42, 43, 44, 45, 46, 47, 48, 49, 50, 51, 52, 53, 54, 55, 56, 57, 58, 59, 60, 61, 62, 77, 78, 69, 70, 71, 72, 73, 79, 80, 81, 82, 83, 84, 85, 86, 87, 88, 74, 75, 76] rfl (by decide +kernel)
set_option maxRecDepth 100000 in
theorem gX5_load_X3_save : GoodIn wsX5_load (wsV RX5 61 RX3 yX3_save wsX3_save) := goodIn_app (goodIn_r _ [19, 20, 21, 22] rfl (by decide +kernel)) ggX5_load_X3_save
theorem dX5_load_0 : decode cX5_load 0 = .ok (.iload_n 1, 1) := by decide +kernel
theorem dX5_load_1 : decode cX5_load 1 = .ok (.invokestatic 116, 3) := by decide +kernel
theorem dX5_load_4 : decode cX5_load 4 = .ok (.iload_n 2, 1) := by decide +kernel
theorem dX5_load_5 : decode cX5_load 5 = .ok (.iconst 0, 1) := by decide +kernel
theorem dX5_load_6 : decode cX5_load 6 = .ok (.sipush 300, 3) := by decide +kernel
theorem dX5_load_9 : decode cX5_load 9 = .ok (.invokestatic 40, 3) := by decide +kernel
theorem dX5_load_12 : decode cX5_load 12 = .ok (.aload_n 0, 1) := by decide +kernel
theorem dX5_load_13 : decode cX5_load 13 = .ok (.getfield 25, 3) := by decide +kernel
theorem dX5_load_16 : decode cX5_load 16 = .ok (.aload_n 0, 1) := by decide +kernel
theorem dX5_load_17 : decode cX5_load 17 = .ok (.getfield 10, 3) := by decide +kernel
theorem dX5_load_20 : decode cX5_load 20 = .ok (.invokevirtual 61, 3) := by decide +kernel
theorem dX5_load_23 : decode cX5_load 23 = .ok (.aload_n 0, 1) := by decide +kernel
theorem dX5_load_24 : decode cX5_load 24 = .ok (.getfield 10, 3) := by decide +kernel
theorem dX5_load_27 : decode cX5_load 27 = .ok (.getfield 119, 3) := by decide +kernel
theorem dX5_load_30 : decode cX5_load 30 = .ok (.iload_n 1, 1) := by decide +kernel
theorem dX5_load_31 : decode cX5_load 31 = .ok (.aaload, 1) := by decide +kernel
theorem dX5_load_32 : decode cX5_load 32 = .ok (.getfield 123, 3) := by decide +kernel
theorem dX5_load_35 : decode cX5_load 35 = .ok (.istore_n 3, 1) := by decide +kernel
theorem dX5_load_36 : decode cX5_load 36 = .ok (.aload_n 0, 1) := by decide +kernel
theorem dX5_load_37 : decode cX5_load 37 = .ok (.getfield 10, 3) := by decide +kernel
theorem dX5_load_40 : decode cX5_load 40 = .ok (.getfield 119, 3) := by decide +kernel
theorem dX5_load_43 : decode cX5_load 43 = .ok (.iload_n 1, 1) := by decide +kernel
theorem dX5_load_44 : decode cX5_load 44 = .ok (.aaload, 1) := by decide +kernel
theorem dX5_load_45 : decode cX5_load 45 = .ok (.iload_n 2, 1) := by decide +kernel
theorem dX5_load_46 : decode cX5_load 46 = .ok (.putfield 123, 3) := by decide +kernel
theorem dX5_load_49 : decode cX5_load 49 = .ok (.iload_n 3, 1) := by decide +kernel
theorem dX5_load_50 : decode cX5_load 50 = .ok (.ireturn, 1) := by decide +kernel
set_option maxRecDepth 100000 in
theorem ggX5_feeder_X5_needFeeder : GoodIn wsX5_feeder wsX5_needFeeder := goodIn_ca (goodIn_r _ [8, 9, 10, 11, 12, 7, 13] rfl (by decide +kernel)) (goodIn_sub (fun _ h => List.mem_cons_of_mem _ (List.mem_append_left _ (List.mem_append_right _ h))) (by decide +kernel))
set_option maxRecDepth 100000 in
theorem gX5_feeder_X5_needFeeder : GoodIn wsX5_feeder (va_wsS RX5 116 yX5_needFeeder wsX5_needFeeder) := goodIn_app (goodIn_r _ [5, 6, 7] rfl (by decide +kernel)) ggX5_feeder_X5_needFeeder
set_option maxRecDepth 100000 in
theorem ggX5_feeder_X5_needRange : GoodIn wsX5_feeder wsX5_needRange := goodIn_ca (goodIn_r _ [16, 17, 18] rfl (by decide +kernel)) (goodIn_sub (fun _ h => List.mem_cons_of_mem _ (List.mem_append_right _ h)) (by decide +kernel))
set_option maxRecDepth 100000 in
theorem gX5_feeder_X5_needRange : GoodIn wsX5_feeder (va_wsS RX5 40 yX5_needRange wsX5_needRange) := goodIn_app (goodIn_r _ [14, 15, 7] rfl (by decide +kernel)) ggX5_feeder_X5_needRange
set_option maxRecDepth 100000 in
theorem ggX5_feeder_X3_save : GoodIn wsX5_feeder wsX3_save := goodIn_r _ [23, 24, 25, 26, 27, 28, 22, 29, 30, 31, 32, 33, 34, 35, 36, 37, 38, 39, 40, 41, 42, 43, 44, 45, 46, 47, 48, 49, 50, 51, 52, 53, 54, 55, 56, 57, 58, 59, 60, 61, 62, 80, 81, 72, 73, 74, 75, 76, 82, 83, 84, 85, 86, 87, 88, 89, 90, 91, 77, 78, 79] rfl (by decide +kernel)
set_option maxRecDepth 100000 in
theorem gX5_feeder_X3_save : GoodIn wsX5_feeder (wsV RX5 61 RX3 yX3_save wsX3_save) := goodIn_app (goodIn_r _ [19, 20, 21, 22] rfl (by decide +kernel)) ggX5_feeder_X3_save
set_option maxRecDepth 100000 in
theorem ggX5_feeder_X5_oneIf : GoodIn wsX5_feeder wsX5_oneIf := goodIn_r _ [65] rfl (by decide +kernel)
set_option maxRecDepth 100000 in
theorem gX5_feeder_X5_oneIf : GoodIn wsX5_feeder (va_wsS RX5 131 yX5_oneIf wsX5_oneIf) := goodIn_app (goodIn_r _ [63, 64, 7] rfl (by decide +kernel)) ggX5_feeder_X5_oneIf
theorem dX5_feeder_0 : decode cX5_feeder 0 = .ok (.iload_n 1, 1) := by decide +kernel
theorem dX5_feeder_1 : decode cX5_feeder 1 = .ok (.invokestatic 116, 3) := by decide +kernel
theorem dX5_feeder_4 : decode cX5_feeder 4 = .ok (.iload_n 2, 1) := by decide +kernel
theorem dX5_feeder_5 : decode cX5_feeder 5 = .ok (.iconst 0, 1) := by decide +kernel
theorem dX5_feeder_6 : decode cX5_feeder 6 = .ok (.iconst 1, 1) := by decide +kernel
theorem dX5_feeder_7 : decode cX5_feeder 7 = .ok (.invokestatic 40, 3) := by decide +kernel
theorem dX5_feeder_10 : decode cX5_feeder 10 = .ok (.aload_n 0, 1) := by decide +kernel
theorem dX5_feeder_11 : decode cX5_feeder 11 = .ok (.getfield 25, 3) := by decide +kernel
theorem dX5_feeder_14 : decode cX5_feeder 14 = .ok (.aload_n 0, 1) := by decide +kernel
theorem dX5_feeder_15 : decode cX5_feeder 15 = .ok (.getfield 10, 3) := by decide +kernel
theorem dX5_feeder_18 : decode cX5_feeder 18 = .ok (.invokevirtual 61, 3) := by decide +kernel
theorem dX5_feeder_21 : decode cX5_feeder 21 = .ok (.aload_n 0, 1) := by decide +kernel
theorem dX5_feeder_22 : decode cX5_feeder 22 = .ok (.getfield 10, 3) := by decide +kernel
theorem dX5_feeder_25 : decode cX5_feeder 25 = .ok (.getfield 119, 3) := by decide +kernel
theorem dX5_feeder_28 : decode cX5_feeder 28 = .ok (.iload_n 1, 1) := by decide +kernel
theorem dX5_feeder_29 : decode cX5_feeder 29 = .ok (.aaload, 1) := by decide +kernel
theorem dX5_feeder_30 : decode cX5_feeder 30 = .ok (.getfield 128, 3) := by decide +kernel
theorem dX5_feeder_33 : decode cX5_feeder 33 = .ok (.invokestatic 131, 3) := by decide +kernel
theorem dX5_feeder_36 : decode cX5_feeder 36 = .ok (.istore_n 3, 1) := by decide +kernel
theorem dX5_feeder_37 : decode cX5_feeder 37 = .ok (.aload_n 0, 1) := by decide +kernel
theorem dX5_feeder_38 : decode cX5_feeder 38 = .ok (.getfield 10, 3) := by decide +kernel
theorem dX5_feeder_41 : decode cX5_feeder 41 = .ok (.getfield 119, 3) := by decide +kernel
theorem dX5_feeder_44 : decode cX5_feeder 44 = .ok (.iload_n 1, 1) := by decide +kernel
theorem dX5_feeder_45 : decode cX5_feeder 45 = .ok (.aaload, 1) := by decide +kernel
theorem dX5_feeder_46 : decode cX5_feeder 46 = .ok (.iload_n 2, 1) := by decide +kernel
theorem dX5_feeder_47 : decode cX5_feeder 47 = .ok (.iconst 1, 1) := by decide +kernel
theorem dX5_feeder_48 : decode cX5_feeder 48 = .ok (.if_icmp .ne 7, 3) := by decide +kernel
theorem dX5_feeder_51 : decode cX5_feeder 51 = .ok (.iconst 1, 1) := by decide +kernel
theorem dX5_feeder_52 : decode cX5_feeder 52 = .ok (.goto 4, 3) := by decide +kernel
theorem dX5_feeder_55 : decode cX5_feeder 55 = .ok (.iconst 0, 1) := by decide +kernel
theorem dX5_feeder_56 : decode cX5_feeder 56 = .ok (.putfield 128, 3) := by decide +kernel
theorem dX5_feeder_59 : decode cX5_feeder 59 = .ok (.iload_n 3, 1) := by decide +kernel
theorem dX5_feeder_60 : decode cX5_feeder 60 = .ok (.ireturn, 1) := by decide +kernel
set_option maxRecDepth 100000 in
theorem ggX5_pass_X5_needRange : GoodIn wsX5_pass wsX5_needRange := goodIn_ca (goodIn_r _ [6, 7, 8] rfl (by decide +kernel)) (goodIn_sub (fun _ h => List.mem_cons_of_mem _ (List.mem_append_right _ h)) (by decide +kernel))
set_option maxRecDepth 100000 in
theorem gX5_pass_X5_needRange : GoodIn wsX5_pass (va_wsS RX5 40 yX5_needRange wsX5_needRange) := goodIn_app (goodIn_r _ [3, 4, 5] rfl (by decide +kernel)) ggX5_pass_X5_needRange
set_option maxRecDepth 100000 in
theorem ggX5_pass_X3_save : GoodIn wsX5_pass wsX3_save := goodIn_r _ [13, 14, 15, 16, 17, 18, 12, 19, 20, 21, 22, 23, 24, 25, 26, 27, 28, 29, 30, 31, 32, 33, 34, 35, 36, 37, 38, 39, 40, 41, 42, 43, 44, 45, 46, 47, 48, 49, 50, 51, 52, 134, 135, 136, 137, 138, 139, 140, 141, 142, 143, 144, 145, 146, 147, 148, 149, 150, 151, 152, 153] rfl (by decide +kernel)
set_option maxRecDepth 100000 in
theorem gX5_pass_X3_save : GoodIn wsX5_pass (wsV RX5 61 RX3 yX3_save wsX3_save) := goodIn_app (goodIn_r _ [9, 10, 11, 12] rfl (by decide +kernel)) ggX5_pass_X3_save
set_option maxRecDepth 100000 in
theorem ggX5_pass_X0_passTicks : GoodIn wsX5_pass wsX0_passTicks := goodIn_r _ [56, 57, 58, 59, 23, 60, 29, 25, 28, 61, 62, 63, 64, 65, 66, 67, 68, 69, 70, 71, 72, 73, 26, 74, 75, 76, 77, 78, 79, 80, 81, 82, 33, 83, 39, 36, 37, 35, 84, 85, 86, 87, 88, 89, 90, 91, 92, 93, 94, 95, 96, 97, 98, 99, 100, 101, 102, 103, 43, 41, 42, 38, 40, 104, 105, 106, 107, 108, 109, 110, 111, 112, 113, 114, 115, 116, 117, 27, 118, 119, 120, 121, 122, 123, 124, 125, 126, 127, 136, 137, 138, 139, 140, 141, 142, 143, 144, 145, 146, 147, 148, 149, 150, 151, 152, 153] rfl (by decide +kernel)
set_option maxRecDepth 100000 in
theorem gX5_pass_X0_passTicks : GoodIn wsX5_pass (wsV RX5 135 RX0 yX0_passTicks wsX0_passTicks) := goodIn_app (goodIn_r _ [53, 54, 55, 23] rfl (by decide +kernel)) ggX5_pass_X0_passTicks
theorem dX5_pass_0 : decode cX5_pass 0 = .ok (.iload_n 1, 1) := by decide +kernel
theorem dX5_pass_1 : decode cX5_pass 1 = .ok (.iconst 1, 1) := by decide +kernel
theorem dX5_pass_2 : decode cX5_pass 2 = .ok (.bipush 99, 2) := by decide +kernel
theorem dX5_pass_4 : decode cX5_pass 4 = .ok (.invokestatic 40, 3) := by decide +kernel
theorem dX5_pass_7 : decode cX5_pass 7 = .ok (.aload_n 0, 1) := by decide +kernel
theorem dX5_pass_8 : decode cX5_pass 8 = .ok (.getfield 25, 3) := by decide +kernel
theorem dX5_pass_11 : decode cX5_pass 11 = .ok (.aload_n 0, 1) := by decide +kernel
theorem dX5_pass_12 : decode cX5_pass 12 = .ok (.getfield 10, 3) := by decide +kernel
theorem dX5_pass_15 : decode cX5_pass 15 = .ok (.invokevirtual 61, 3) := by decide +kernel
theorem dX5_pass_18 : decode cX5_pass 18 = .ok (.aload_n 0, 1) := by decide +kernel
theorem dX5_pass_19 : decode cX5_pass 19 = .ok (.getfield 10, 3) := by decide +kernel
theorem dX5_pass_22 : decode cX5_pass 22 = .ok (.iload_n 1, 1) := by decide +kernel
theorem dX5_pass_23 : decode cX5_pass 23 = .ok (.invokevirtual 135, 3) := by decide +kernel
theorem dX5_pass_26 : decode cX5_pass 26 = .ok (.ireturn, 1) := by decide +kernel
set_option maxRecDepth 100000 in
theorem ggX5_set_X5_needSetting : GoodIn wsX5_set wsX5_needSetting := goodIn_ca (goodIn_r _ [9, 10, 11] rfl (by decide +kernel)) (goodIn_sub (fun _ h => List.mem_cons_of_mem _ (List.mem_append_left _ (List.mem_append_right _ h))) (by decide +kernel))
set_option maxRecDepth 100000 in
theorem gX5_set_X5_needSetting : GoodIn wsX5_set (va_wsS RX5 138 yX5_needSetting wsX5_needSetting) := goodIn_app (goodIn_r _ [6, 7, 8] rfl (by decide +kernel)) ggX5_set_X5_needSetting
set_option maxRecDepth 100000 in
theorem ggX5_set_X5_needRange : GoodIn wsX5_set wsX5_needRange := goodIn_ca (goodIn_r _ [14, 15, 16] rfl (by decide +kernel)) (goodIn_sub (fun _ h => List.mem_cons_of_mem _ (List.mem_append_right _ h)) (by decide +kernel))
set_option maxRecDepth 100000 in
theorem gX5_set_X5_needRange : GoodIn wsX5_set (va_wsS RX5 40 yX5_needRange wsX5_needRange) := goodIn_app (goodIn_r _ [12, 13, 8] rfl (by decide +kernel)) ggX5_set_X5_needRange
set_option maxRecDepth 100000 in
theorem ggX5_set_X3_save : GoodIn wsX5_set wsX3_save := goodIn_r _ [21, 22, 23, 24, 25, 26, 20, 27, 28, 29, 30, 31, 32, 33, 34, 35, 36, 37, 38, 39, 40, 41, 42, 43, 44, 45, 46, 47, 48, 49, 50, 51, 52, 53, 54, 55, 56, 57, 58, 59, 60, 72, 73, 67, 68, 69, 70, 71, 74, 75, 76, 77, 78, 79, 80, 81, 82, 83, 84, 85, 86] rfl (by decide +kernel)
set_option maxRecDepth 100000 in
theorem gX5_set_X3_save : GoodIn wsX5_set (wsV RX5 61 RX3 yX3_save wsX3_save) := goodIn_app (goodIn_r _ [17, 18, 19, 20] rfl (by decide +kernel)) ggX5_set_X3_save
theorem dX5_set_0 : decode cX5_set 0 = .ok (.iload_n 1, 1) := by decide +kernel
theorem dX5_set_1 : decode cX5_set 1 = .ok (.invokestatic 138, 3) := by decide +kernel
theorem dX5_set_4 : decode cX5_set 4 = .ok (.iload_n 2, 1) := by decide +kernel
theorem dX5_set_5 : decode cX5_set 5 = .ok (.getstatic 141, 3) := by decide +kernel
theorem dX5_set_8 : decode cX5_set 8 = .ok (.iload_n 1, 1) := by decide +kernel
theorem dX5_set_9 : decode cX5_set 9 = .ok (.iaload, 1) := by decide +kernel
theorem dX5_set_10 : decode cX5_set 10 = .ok (.getstatic 145, 3) := by decide +kernel
theorem dX5_set_13 : decode cX5_set 13 = .ok (.iload_n 1, 1) := by decide +kernel
theorem dX5_set_14 : decode cX5_set 14 = .ok (.iaload, 1) := by decide +kernel
theorem dX5_set_15 : decode cX5_set 15 = .ok (.invokestatic 40, 3) := by decide +kernel
theorem dX5_set_18 : decode cX5_set 18 = .ok (.aload_n 0, 1) := by decide +kernel
theorem dX5_set_19 : decode cX5_set 19 = .ok (.getfield 25, 3) := by decide +kernel
theorem dX5_set_22 : decode cX5_set 22 = .ok (.aload_n 0, 1) := by decide +kernel
theorem dX5_set_23 : decode cX5_set 23 = .ok (.getfield 10, 3) := by decide +kernel
theorem dX5_set_26 : decode cX5_set 26 = .ok (.invokevirtual 61, 3) := by decide +kernel
theorem dX5_set_29 : decode cX5_set 29 = .ok (.aload_n 0, 1) := by decide +kernel
theorem dX5_set_30 : decode cX5_set 30 = .ok (.getfield 10, 3) := by decide +kernel
theorem dX5_set_33 : decode cX5_set 33 = .ok (.getfield 148, 3) := by decide +kernel
theorem dX5_set_36 : decode cX5_set 36 = .ok (.iload_n 1, 1) := by decide +kernel
theorem dX5_set_37 : decode cX5_set 37 = .ok (.iaload, 1) := by decide +kernel
theorem dX5_set_38 : decode cX5_set 38 = .ok (.istore_n 3, 1) := by decide +kernel
theorem dX5_set_39 : decode cX5_set 39 = .ok (.aload_n 0, 1) := by decide +kernel
theorem dX5_set_40 : decode cX5_set 40 = .ok (.getfield 10, 3) := by decide +kernel
theorem dX5_set_43 : decode cX5_set 43 = .ok (.getfield 148, 3) := by decide +kernel
theorem dX5_set_46 : decode cX5_set 46 = .ok (.iload_n 1, 1) := by decide +kernel
theorem dX5_set_47 : decode cX5_set 47 = .ok (.iload_n 2, 1) := by decide +kernel
theorem dX5_set_48 : decode cX5_set 48 = .ok (.iastore, 1) := by decide +kernel
theorem dX5_set_49 : decode cX5_set 49 = .ok (.iload_n 3, 1) := by decide +kernel
theorem dX5_set_50 : decode cX5_set 50 = .ok (.ireturn, 1) := by decide +kernel
set_option maxRecDepth 100000 in
theorem ggX5_diesel_X5_needSet : GoodIn wsX5_diesel wsX5_needSet := goodIn_ca (goodIn_r _ [4, 5, 6, 7, 8, 3, 9] rfl (by decide +kernel)) (goodIn_sub (fun _ h => List.mem_cons_of_mem _ (List.mem_append_left _ (List.mem_append_right _ h))) (by decide +kernel))
set_option maxRecDepth 100000 in
theorem gX5_diesel_X5_needSet : GoodIn wsX5_diesel (va_wsS RX5 36 yX5_needSet wsX5_needSet) := goodIn_app (goodIn_r _ [1, 2, 3] rfl (by decide +kernel)) ggX5_diesel_X5_needSet
set_option maxRecDepth 100000 in
theorem ggX5_diesel_X5_needRange : GoodIn wsX5_diesel wsX5_needRange := goodIn_ca (goodIn_r _ [12, 13, 14] rfl (by decide +kernel)) (goodIn_sub (fun _ h => List.mem_cons_of_mem _ (List.mem_append_right _ h)) (by decide +kernel))
set_option maxRecDepth 100000 in
theorem gX5_diesel_X5_needRange : GoodIn wsX5_diesel (va_wsS RX5 40 yX5_needRange wsX5_needRange) := goodIn_app (goodIn_r _ [10, 11, 3] rfl (by decide +kernel)) ggX5_diesel_X5_needRange
set_option maxRecDepth 100000 in
theorem ggX5_diesel_X5_tellOfSet : GoodIn wsX5_diesel wsX5_tellOfSet := goodIn_r _ [18, 19, 20, 21, 22, 23, 24, 25, 26, 27, 28, 29, 30, 31, 32, 3, 33, 34, 35, 36, 37, 38, 39, 40, 41, 42, 43, 44, 45, 46, 47, 48, 49, 50, 51, 52, 53, 54, 55, 56, 57, 58, 59, 60, 61, 62, 63, 64, 65, 66, 67, 68, 69, 70, 71, 72, 73, 74, 75, 76, 77, 78, 79, 80, 81, 82, 83, 84, 85, 86, 87, 88, 89, 90, 91, 92, 93, 94, 95, 96, 97, 98, 99, 100, 101, 102, 103, 104, 105, 106, 107, 108, 109, 110, 111, 112, 113, 114, 115, 116, 117, 118, 119, 120] rfl (by decide +kernel)
set_option maxRecDepth 100000 in
theorem gX5_diesel_X5_tellOfSet : GoodIn wsX5_diesel (wsV RX5 199 RX5 yX5_tellOfSet wsX5_tellOfSet) := goodIn_app (goodIn_r _ [15, 16, 17, 3] rfl (by decide +kernel)) ggX5_diesel_X5_tellOfSet
theorem dX5_diesel_0 : decode cX5_diesel 0 = .ok (.iload_n 1, 1) := by decide +kernel
theorem dX5_diesel_1 : decode cX5_diesel 1 = .ok (.invokestatic 36, 3) := by decide +kernel
theorem dX5_diesel_4 : decode cX5_diesel 4 = .ok (.iload_n 2, 1) := by decide +kernel
theorem dX5_diesel_5 : decode cX5_diesel 5 = .ok (.iconst 0, 1) := by decide +kernel
theorem dX5_diesel_6 : decode cX5_diesel 6 = .ok (.bipush 12, 2) := by decide +kernel
theorem dX5_diesel_8 : decode cX5_diesel 8 = .ok (.invokestatic 40, 3) := by decide +kernel
theorem dX5_diesel_11 : decode cX5_diesel 11 = .ok (.aload_n 0, 1) := by decide +kernel
theorem dX5_diesel_12 : decode cX5_diesel 12 = .ok (.iload_n 1, 1) := by decide +kernel
theorem dX5_diesel_13 : decode cX5_diesel 13 = .ok (.iload_n 2, 1) := by decide +kernel
theorem dX5_diesel_14 : decode cX5_diesel 14 = .ok (.invokevirtual 199, 3) := by decide +kernel
theorem dX5_diesel_17 : decode cX5_diesel 17 = .ok (.ireturn, 1) := by decide +kernel
set_option maxRecDepth 100000 in
theorem ggX5_line_X5_needFeeder : GoodIn wsX5_line wsX5_needFeeder := goodIn_ca (goodIn_r _ [4, 5, 6, 7, 8, 3, 9] rfl (by decide +kernel)) (goodIn_sub (fun _ h => List.mem_cons_of_mem _ (List.mem_append_left _ (List.mem_append_right _ h))) (by decide +kernel))
set_option maxRecDepth 100000 in
theorem gX5_line_X5_needFeeder : GoodIn wsX5_line (va_wsS RX5 116 yX5_needFeeder wsX5_needFeeder) := goodIn_app (goodIn_r _ [1, 2, 3] rfl (by decide +kernel)) ggX5_line_X5_needFeeder
set_option maxRecDepth 100000 in
theorem ggX5_line_X5_needRange : GoodIn wsX5_line wsX5_needRange := goodIn_ca (goodIn_r _ [12, 13, 14] rfl (by decide +kernel)) (goodIn_sub (fun _ h => List.mem_cons_of_mem _ (List.mem_append_right _ h)) (by decide +kernel))
set_option maxRecDepth 100000 in
theorem gX5_line_X5_needRange : GoodIn wsX5_line (va_wsS RX5 40 yX5_needRange wsX5_needRange) := goodIn_app (goodIn_r _ [10, 11, 3] rfl (by decide +kernel)) ggX5_line_X5_needRange
set_option maxRecDepth 100000 in
theorem ggX5_line_X5_tellOfFeeder : GoodIn wsX5_line wsX5_tellOfFeeder := goodIn_r _ [18, 19, 20, 21, 22, 23, 24, 25, 3, 26, 27, 28, 29, 30, 31, 32, 33, 34, 35, 36, 37, 38, 39, 40] rfl (by decide +kernel)
set_option maxRecDepth 100000 in
theorem gX5_line_X5_tellOfFeeder : GoodIn wsX5_line (wsV RX5 203 RX5 yX5_tellOfFeeder wsX5_tellOfFeeder) := goodIn_app (goodIn_r _ [15, 16, 17, 3] rfl (by decide +kernel)) ggX5_line_X5_tellOfFeeder
theorem dX5_line_0 : decode cX5_line 0 = .ok (.iload_n 1, 1) := by decide +kernel
theorem dX5_line_1 : decode cX5_line 1 = .ok (.invokestatic 116, 3) := by decide +kernel
theorem dX5_line_4 : decode cX5_line 4 = .ok (.iload_n 2, 1) := by decide +kernel
theorem dX5_line_5 : decode cX5_line 5 = .ok (.iconst 0, 1) := by decide +kernel
theorem dX5_line_6 : decode cX5_line 6 = .ok (.iconst 2, 1) := by decide +kernel
theorem dX5_line_7 : decode cX5_line 7 = .ok (.invokestatic 40, 3) := by decide +kernel
theorem dX5_line_10 : decode cX5_line 10 = .ok (.aload_n 0, 1) := by decide +kernel
theorem dX5_line_11 : decode cX5_line 11 = .ok (.iload_n 1, 1) := by decide +kernel
theorem dX5_line_12 : decode cX5_line 12 = .ok (.iload_n 2, 1) := by decide +kernel
theorem dX5_line_13 : decode cX5_line 13 = .ok (.invokevirtual 203, 3) := by decide +kernel
theorem dX5_line_16 : decode cX5_line 16 = .ok (.ireturn, 1) := by decide +kernel
set_option maxRecDepth 100000 in
theorem ggX5_count_X5_needRange : GoodIn wsX5_count wsX5_needRange := goodIn_ca (goodIn_r _ [4, 5, 6] rfl (by decide +kernel)) (goodIn_sub (fun _ h => List.mem_cons_of_mem _ (List.mem_append_right _ h)) (by decide +kernel))
set_option maxRecDepth 100000 in
theorem gX5_count_X5_needRange : GoodIn wsX5_count (va_wsS RX5 40 yX5_needRange wsX5_needRange) := goodIn_app (goodIn_r _ [1, 2, 3] rfl (by decide +kernel)) ggX5_count_X5_needRange
set_option maxRecDepth 100000 in
theorem ggX5_count_X5_tellCount : GoodIn wsX5_count wsX5_tellCount := goodIn_r _ [10, 11, 12, 13, 14, 15, 16, 17, 18, 19, 20, 21, 22, 23, 24, 25, 26, 27, 28, 29, 30, 31, 32, 33, 34, 35, 36, 37, 38, 39, 40, 41, 42, 43, 44, 45, 46, 47, 48, 49, 50, 51, 52, 53, 54, 55, 56, 57, 58, 59, 60, 61, 62, 63, 64, 65, 66, 67, 68, 69, 70, 71, 72, 73, 74, 75, 76, 77, 3, 78, 79, 80, 81, 82, 83, 84, 85, 86, 87, 88, 89, 90, 91, 92, 93, 94, 95, 96, 97, 98, 99, 100, 101, 102, 103, 104, 105, 106, 107, 108, 109, 110, 111, 112, 113, 114, 115, 116, 117, 118] rfl (by decide +kernel)
set_option maxRecDepth 100000 in
theorem gX5_count_X5_tellCount : GoodIn wsX5_count (wsV RX5 206 RX5 yX5_tellCount wsX5_tellCount) := goodIn_app (goodIn_r _ [7, 8, 9, 3] rfl (by decide +kernel)) ggX5_count_X5_tellCount
theorem dX5_count_0 : decode cX5_count 0 = .ok (.iload_n 1, 1) := by decide +kernel
theorem dX5_count_1 : decode cX5_count 1 = .ok (.iconst 0, 1) := by decide +kernel
theorem dX5_count_2 : decode cX5_count 2 = .ok (.bipush 11, 2) := by decide +kernel
theorem dX5_count_4 : decode cX5_count 4 = .ok (.invokestatic 40, 3) := by decide +kernel
theorem dX5_count_7 : decode cX5_count 7 = .ok (.aload_n 0, 1) := by decide +kernel
theorem dX5_count_8 : decode cX5_count 8 = .ok (.iload_n 1, 1) := by decide +kernel
theorem dX5_count_9 : decode cX5_count 9 = .ok (.invokevirtual 206, 3) := by decide +kernel
theorem dX5_count_12 : decode cX5_count 12 = .ok (.ireturn, 1) := by decide +kernel
set_option maxRecDepth 100000 in
theorem ggX5_setting_X5_needSetting : GoodIn wsX5_setting wsX5_needSetting := goodIn_ca (goodIn_r _ [6, 7, 8] rfl (by decide +kernel)) (goodIn_sub (fun _ h => List.mem_cons_of_mem _ (List.mem_append_right _ h)) (by decide +kernel))
set_option maxRecDepth 100000 in
theorem gX5_setting_X5_needSetting : GoodIn wsX5_setting (va_wsS RX5 138 yX5_needSetting wsX5_needSetting) := goodIn_app (goodIn_r _ [3, 4, 5] rfl (by decide +kernel)) ggX5_setting_X5_needSetting
theorem dX5_setting_0 : decode cX5_setting 0 = .ok (.iload_n 1, 1) := by decide +kernel
theorem dX5_setting_1 : decode cX5_setting 1 = .ok (.invokestatic 138, 3) := by decide +kernel
theorem dX5_setting_4 : decode cX5_setting 4 = .ok (.aload_n 0, 1) := by decide +kernel
theorem dX5_setting_5 : decode cX5_setting 5 = .ok (.getfield 10, 3) := by decide +kernel
theorem dX5_setting_8 : decode cX5_setting 8 = .ok (.getfield 148, 3) := by decide +kernel
theorem dX5_setting_11 : decode cX5_setting 11 = .ok (.iload_n 1, 1) := by decide +kernel
theorem dX5_setting_12 : decode cX5_setting 12 = .ok (.iaload, 1) := by decide +kernel
theorem dX5_setting_13 : decode cX5_setting 13 = .ok (.ireturn, 1) := by decide +kernel
set_option maxRecDepth 100000 in
theorem ggX5_ifSpeed_X5_needSet : GoodIn wsX5_ifSpeed wsX5_needSet := goodIn_ca (goodIn_r _ [4, 5, 6, 7, 8, 3, 9] rfl (by decide +kernel)) (goodIn_sub (fun _ h => List.mem_cons_of_mem _ (List.mem_append_left _ (List.mem_append_right _ h))) (by decide +kernel))
set_option maxRecDepth 100000 in
theorem gX5_ifSpeed_X5_needSet : GoodIn wsX5_ifSpeed (va_wsS RX5 36 yX5_needSet wsX5_needSet) := goodIn_app (goodIn_r _ [1, 2, 3] rfl (by decide +kernel)) ggX5_ifSpeed_X5_needSet
set_option maxRecDepth 100000 in
theorem ggX5_ifSpeed_X5_needRange : GoodIn wsX5_ifSpeed wsX5_needRange := goodIn_ca (goodIn_r _ [12, 13, 14] rfl (by decide +kernel)) (goodIn_sub (fun _ h => List.mem_cons_of_mem _ (List.mem_append_right _ h)) (by decide +kernel))
set_option maxRecDepth 100000 in
theorem gX5_ifSpeed_X5_needRange : GoodIn wsX5_ifSpeed (va_wsS RX5 40 yX5_needRange wsX5_needRange) := goodIn_app (goodIn_r _ [10, 11, 3] rfl (by decide +kernel)) ggX5_ifSpeed_X5_needRange
set_option maxRecDepth 100000 in
theorem ggX5_ifSpeed_X5_tellIfSpeed : GoodIn wsX5_ifSpeed wsX5_tellIfSpeed := goodIn_r _ [18, 19, 20, 21, 22, 23, 24, 25, 26, 27, 28, 29, 30, 31, 32, 33, 34, 35, 36, 37, 38, 39, 40, 41, 42, 43, 44, 45, 46, 47, 48, 49, 50, 51, 52, 53, 54, 55, 56, 57, 58, 59, 60, 61, 62, 63, 64, 65, 66, 67, 68, 69, 70, 71, 72, 73, 74, 75, 76, 77, 78, 79, 80, 81, 82, 83, 84, 85, 86, 87, 88, 89, 90, 91, 92, 93, 94, 95, 96, 97, 98, 99, 100, 101, 102, 103, 104, 105, 106, 107, 108, 109, 110, 111, 112, 113, 114, 115, 116, 117, 118] rfl (by decide +kernel)
set_option maxRecDepth 100000 in
theorem gX5_ifSpeed_X5_tellIfSpeed : GoodIn wsX5_ifSpeed (wsV RX5 209 RX5 yX5_tellIfSpeed wsX5_tellIfSpeed) := goodIn_app (goodIn_r _ [15, 16, 17, 3] rfl (by decide +kernel)) ggX5_ifSpeed_X5_tellIfSpeed
theorem dX5_ifSpeed_0 : decode cX5_ifSpeed 0 = .ok (.iload_n 1, 1) := by decide +kernel
theorem dX5_ifSpeed_1 : decode cX5_ifSpeed 1 = .ok (.invokestatic 36, 3) := by decide +kernel
theorem dX5_ifSpeed_4 : decode cX5_ifSpeed 4 = .ok (.iload_n 2, 1) := by decide +kernel
theorem dX5_ifSpeed_5 : decode cX5_ifSpeed 5 = .ok (.sipush 4700, 3) := by decide +kernel
theorem dX5_ifSpeed_8 : decode cX5_ifSpeed 8 = .ok (.sipush 5300, 3) := by decide +kernel
theorem dX5_ifSpeed_11 : decode cX5_ifSpeed 11 = .ok (.invokestatic 40, 3) := by decide +kernel
theorem dX5_ifSpeed_14 : decode cX5_ifSpeed 14 = .ok (.iload_n 3, 1) := by decide +kernel
theorem dX5_ifSpeed_15 : decode cX5_ifSpeed 15 = .ok (.iconst 0, 1) := by decide +kernel
theorem dX5_ifSpeed_16 : decode cX5_ifSpeed 16 = .ok (.iconst 2, 1) := by decide +kernel
theorem dX5_ifSpeed_17 : decode cX5_ifSpeed 17 = .ok (.invokestatic 40, 3) := by decide +kernel
theorem dX5_ifSpeed_20 : decode cX5_ifSpeed 20 = .ok (.aload_n 0, 1) := by decide +kernel
theorem dX5_ifSpeed_21 : decode cX5_ifSpeed 21 = .ok (.iload_n 1, 1) := by decide +kernel
theorem dX5_ifSpeed_22 : decode cX5_ifSpeed 22 = .ok (.iload_n 2, 1) := by decide +kernel
theorem dX5_ifSpeed_23 : decode cX5_ifSpeed 23 = .ok (.iload_n 3, 1) := by decide +kernel
theorem dX5_ifSpeed_24 : decode cX5_ifSpeed 24 = .ok (.invokevirtual 209, 3) := by decide +kernel
theorem dX5_ifSpeed_27 : decode cX5_ifSpeed 27 = .ok (.ireturn, 1) := by decide +kernel
set_option maxRecDepth 100000 in
theorem ggX5_closeIn_X5_needSet : GoodIn wsX5_closeIn wsX5_needSet := goodIn_ca (goodIn_r _ [4, 5, 6, 7, 8, 3, 9] rfl (by decide +kernel)) (goodIn_sub (fun _ h => List.mem_cons_of_mem _ (List.mem_append_right _ h)) (by decide +kernel))
set_option maxRecDepth 100000 in
theorem gX5_closeIn_X5_needSet : GoodIn wsX5_closeIn (va_wsS RX5 36 yX5_needSet wsX5_needSet) := goodIn_app (goodIn_r _ [1, 2, 3] rfl (by decide +kernel)) ggX5_closeIn_X5_needSet
set_option maxRecDepth 100000 in
theorem ggX5_closeIn_X5_ticksUntilClosing : GoodIn wsX5_closeIn wsX5_ticksUntilClosing := goodIn_r _ [13, 14, 15, 16, 17, 18, 19, 20, 21, 22, 23, 24, 25, 26, 27, 28, 29, 30, 31, 32, 33, 34, 35, 36, 37, 38, 39, 40, 41, 42, 43, 44, 45, 46, 47, 48, 49, 50, 51, 52, 53, 54, 55, 56, 57, 58, 59, 60, 61, 62, 63, 64, 65, 66, 67, 68, 69, 70, 71, 72, 73, 74, 75, 76, 77, 78, 79, 80, 81, 82, 83, 84, 85, 86, 87, 88, 89, 90, 91, 92, 93, 94, 95, 96, 97, 98, 99, 100, 101, 102, 103, 104, 105, 106, 107, 108, 109, 110, 111, 112, 113, 114, 115, 116, 117, 118, 119, 120, 121, 122, 123, 124, 125, 126, 127, 128, 129, 130, 131, 132, 133, 134, 135, 136, 137, 138, 139, 140, 141, 142, 143, 144, 145, 146, 147, 148, 149, 150, 151, 152, 153, 154, 155, 156, 157, 158, 159, 160, 161] rfl (by decide +kernel)
set_option maxRecDepth 100000 in
theorem gX5_closeIn_X5_ticksUntilClosing : GoodIn wsX5_closeIn (wsV RX5 213 RX5 yX5_ticksUntilClosing wsX5_ticksUntilClosing) := goodIn_app (goodIn_r _ [10, 11, 12, 3] rfl (by decide +kernel)) ggX5_closeIn_X5_ticksUntilClosing
theorem dX5_closeIn_0 : decode cX5_closeIn 0 = .ok (.iload_n 1, 1) := by decide +kernel
theorem dX5_closeIn_1 : decode cX5_closeIn 1 = .ok (.invokestatic 36, 3) := by decide +kernel
theorem dX5_closeIn_4 : decode cX5_closeIn 4 = .ok (.aload_n 0, 1) := by decide +kernel
theorem dX5_closeIn_5 : decode cX5_closeIn 5 = .ok (.iload_n 1, 1) := by decide +kernel
theorem dX5_closeIn_6 : decode cX5_closeIn 6 = .ok (.invokevirtual 213, 3) := by decide +kernel
theorem dX5_closeIn_9 : decode cX5_closeIn 9 = .ok (.ireturn, 1) := by decide +kernel
set_option maxRecDepth 100000 in
theorem ggX5_fairSpeed_X5_needSet : GoodIn wsX5_fairSpeed wsX5_needSet := goodIn_ca (goodIn_r _ [4, 5, 6, 7, 8, 3, 9] rfl (by decide +kernel)) (goodIn_sub (fun _ h => List.mem_cons_of_mem _ (List.mem_append_right _ h)) (by decide +kernel))
set_option maxRecDepth 100000 in
theorem gX5_fairSpeed_X5_needSet : GoodIn wsX5_fairSpeed (va_wsS RX5 36 yX5_needSet wsX5_needSet) := goodIn_app (goodIn_r _ [1, 2, 3] rfl (by decide +kernel)) ggX5_fairSpeed_X5_needSet
set_option maxRecDepth 100000 in
theorem ggX5_fairSpeed_X5_speedForFairShare : GoodIn wsX5_fairSpeed wsX5_speedForFairShare := goodIn_r _ [13, 14, 15, 16, 17, 18, 19, 20, 21, 22, 23, 24, 25, 26, 27, 28, 29, 30, 31, 32, 33, 34, 35, 36, 37, 38, 39, 40, 41, 42, 43, 44, 45, 46, 47, 48, 49, 50, 51, 52, 53, 54, 55, 56, 57, 58, 59, 60, 61, 62, 63, 64, 65, 66, 67, 68, 69, 70, 71, 72, 73, 74, 75, 76, 77, 78, 79, 80, 81, 82, 83, 84, 85, 86, 87, 88, 89, 90, 91, 92, 93, 94, 95, 96, 97, 98, 99, 100, 101, 102, 103, 104, 105, 106, 107, 108, 109, 110, 111, 112, 113, 114, 115, 116, 117, 118, 119, 120] rfl (by decide +kernel)
set_option maxRecDepth 100000 in
theorem gX5_fairSpeed_X5_speedForFairShare : GoodIn wsX5_fairSpeed (wsV RX5 216 RX5 yX5_speedForFairShare wsX5_speedForFairShare) := goodIn_app (goodIn_r _ [10, 11, 12, 3] rfl (by decide +kernel)) ggX5_fairSpeed_X5_speedForFairShare
theorem dX5_fairSpeed_0 : decode cX5_fairSpeed 0 = .ok (.iload_n 1, 1) := by decide +kernel
theorem dX5_fairSpeed_1 : decode cX5_fairSpeed 1 = .ok (.invokestatic 36, 3) := by decide +kernel
theorem dX5_fairSpeed_4 : decode cX5_fairSpeed 4 = .ok (.aload_n 0, 1) := by decide +kernel
theorem dX5_fairSpeed_5 : decode cX5_fairSpeed 5 = .ok (.iload_n 1, 1) := by decide +kernel
theorem dX5_fairSpeed_6 : decode cX5_fairSpeed 6 = .ok (.invokevirtual 216, 3) := by decide +kernel
theorem dX5_fairSpeed_9 : decode cX5_fairSpeed 9 = .ok (.ireturn, 1) := by decide +kernel
set_option maxRecDepth 100000 in
theorem ggX5_nextTrip_X0_copyFrom : GoodIn wsX5_nextTrip wsX0_copyFrom := goodIn_r _ [7, 8, 9, 10, 11, 12, 13, 14, 15, 16, 17, 18, 19, 20, 21, 22, 23, 24, 25, 26, 27, 28, 29, 30, 31, 32, 33, 34, 35, 113, 114, 115, 116, 117, 118, 119, 120, 121, 122, 123, 124, 125, 126, 127, 128, 129, 130] rfl (by decide +kernel)
set_option maxRecDepth 100000 in
theorem gX5_nextTrip_X0_copyFrom : GoodIn wsX5_nextTrip (wsV RX5 180 RX0 yX0_copyFrom wsX0_copyFrom) := goodIn_app (goodIn_r _ [3, 4, 5, 6] rfl (by decide +kernel)) ggX5_nextTrip_X0_copyFrom
set_option maxRecDepth 100000 in
theorem ggX5_nextTrip_X0_tick : GoodIn wsX5_nextTrip wsX0_tick := goodIn_r _ [39, 12, 8, 11, 40, 41, 42, 6, 43, 44, 45, 46, 47, 48, 49, 50, 51, 52, 9, 53, 54, 55, 56, 57, 58, 59, 60, 61, 16, 62, 22, 19, 20, 18, 63, 64, 65, 66, 67, 68, 69, 70, 71, 72, 73, 74, 75, 76, 77, 78, 79, 80, 81, 82, 26, 24, 25, 21, 23, 83, 84, 85, 86, 87, 88, 89, 90, 91, 92, 93, 94, 95, 96, 10, 97, 98, 99, 100, 101, 102, 103, 104, 105, 106, 113, 114, 115, 116, 117, 118, 119, 120, 121, 122, 123, 124, 125, 126, 127, 128, 129, 130] rfl (by decide +kernel)
set_option maxRecDepth 100000 in
theorem gX5_nextTrip_X0_tick : GoodIn wsX5_nextTrip (wsV RX5 219 RX0 yX0_tick wsX0_tick) := goodIn_app (goodIn_r _ [36, 37, 38, 6] rfl (by decide +kernel)) ggX5_nextTrip_X0_tick
theorem dX5_nextTrip_0 : decode cX5_nextTrip 0 = .ok (.aload_n 0, 1) := by decide +kernel
theorem dX5_nextTrip_1 : decode cX5_nextTrip 1 = .ok (.getfield 16, 3) := by decide +kernel
theorem dX5_nextTrip_4 : decode cX5_nextTrip 4 = .ok (.aload_n 0, 1) := by decide +kernel
theorem dX5_nextTrip_5 : decode cX5_nextTrip 5 = .ok (.getfield 10, 3) := by decide +kernel
theorem dX5_nextTrip_8 : decode cX5_nextTrip 8 = .ok (.invokevirtual 180, 3) := by decide +kernel
theorem dX5_nextTrip_11 : decode cX5_nextTrip 11 = .ok (.iconst 1, 1) := by decide +kernel
theorem dX5_nextTrip_12 : decode cX5_nextTrip 12 = .ok (.istore_n 1, 1) := by decide +kernel
theorem dX5_nextTrip_13 : decode cX5_nextTrip 13 = .ok (.iload_n 1, 1) := by decide +kernel
theorem dX5_nextTrip_14 : decode cX5_nextTrip 14 = .ok (.bipush 100, 2) := by decide +kernel
theorem dX5_nextTrip_16 : decode cX5_nextTrip 16 = .ok (.if_icmp .gt 21, 3) := by decide +kernel
theorem dX5_nextTrip_19 : decode cX5_nextTrip 19 = .ok (.aload_n 0, 1) := by decide +kernel
theorem dX5_nextTrip_20 : decode cX5_nextTrip 20 = .ok (.getfield 16, 3) := by decide +kernel
theorem dX5_nextTrip_23 : decode cX5_nextTrip 23 = .ok (.invokevirtual 219, 3) := by decide +kernel
theorem dX5_nextTrip_26 : decode cX5_nextTrip 26 = .ok (.ifCond .le 5, 3) := by decide +kernel
theorem dX5_nextTrip_29 : decode cX5_nextTrip 29 = .ok (.iload_n 1, 1) := by decide +kernel
theorem dX5_nextTrip_30 : decode cX5_nextTrip 30 = .ok (.ireturn, 1) := by decide +kernel
theorem dX5_nextTrip_31 : decode cX5_nextTrip 31 = .ok (.iinc 1 1, 3) := by decide +kernel
theorem dX5_nextTrip_34 : decode cX5_nextTrip 34 = .ok (.goto (-21), 3) := by decide +kernel
theorem dX5_nextTrip_37 : decode cX5_nextTrip 37 = .ok (.iconst (-1), 1) := by decide +kernel
theorem dX5_nextTrip_38 : decode cX5_nextTrip 38 = .ok (.ireturn, 1) := by decide +kernel
set_option maxRecDepth 100000 in
theorem ggX5_loadShare_X0_ratingsClosed : GoodIn wsX5_loadShare wsX0_ratingsClosed := goodIn_r _ [6, 7, 8, 9, 27, 28, 29, 30, 31, 32, 33, 34, 35, 36, 37, 38, 39, 40, 41] rfl (by decide +kernel)
set_option maxRecDepth 100000 in
theorem gX5_loadShare_X0_ratingsClosed : GoodIn wsX5_loadShare (wsV RX5 222 RX0 yX0_ratingsClosed wsX0_ratingsClosed) := goodIn_app (goodIn_r _ [2, 3, 4, 5] rfl (by decide +kernel)) ggX5_loadShare_X0_ratingsClosed
set_option maxRecDepth 100000 in
theorem ggX5_loadShare_X0_demand : GoodIn wsX5_loadShare wsX0_demand := goodIn_r _ [13, 14, 15, 16, 17, 18, 19, 5, 20, 7, 8, 27, 28, 29, 30, 31, 42, 43, 44, 32, 33, 34, 35, 36, 37, 38, 39, 40, 41] rfl (by decide +kernel)
set_option maxRecDepth 100000 in
theorem gX5_loadShare_X0_demand : GoodIn wsX5_loadShare (wsV RX5 225 RX0 yX0_demand wsX0_demand) := goodIn_app (goodIn_r _ [10, 11, 12, 5] rfl (by decide +kernel)) ggX5_loadShare_X0_demand
theorem dX5_loadShare_0 : decode cX5_loadShare 0 = .ok (.aload_n 0, 1) := by decide +kernel
theorem dX5_loadShare_1 : decode cX5_loadShare 1 = .ok (.getfield 10, 3) := by decide +kernel
theorem dX5_loadShare_4 : decode cX5_loadShare 4 = .ok (.invokevirtual 222, 3) := by decide +kernel
theorem dX5_loadShare_7 : decode cX5_loadShare 7 = .ok (.istore_n 1, 1) := by decide +kernel
theorem dX5_loadShare_8 : decode cX5_loadShare 8 = .ok (.iload_n 1, 1) := by decide +kernel
theorem dX5_loadShare_9 : decode cX5_loadShare 9 = .ok (.ifCond .ne 5, 3) := by decide +kernel
theorem dX5_loadShare_12 : decode cX5_loadShare 12 = .ok (.dconst 0, 1) := by decide +kernel
theorem dX5_loadShare_13 : decode cX5_loadShare 13 = .ok (.dreturn, 1) := by decide +kernel
theorem dX5_loadShare_14 : decode cX5_loadShare 14 = .ok (.aload_n 0, 1) := by decide +kernel
theorem dX5_loadShare_15 : decode cX5_loadShare 15 = .ok (.getfield 10, 3) := by decide +kernel
theorem dX5_loadShare_18 : decode cX5_loadShare 18 = .ok (.invokevirtual 225, 3) := by decide +kernel
theorem dX5_loadShare_21 : decode cX5_loadShare 21 = .ok (.i2d, 1) := by decide +kernel
theorem dX5_loadShare_22 : decode cX5_loadShare 22 = .ok (.iload_n 1, 1) := by decide +kernel
theorem dX5_loadShare_23 : decode cX5_loadShare 23 = .ok (.i2d, 1) := by decide +kernel
theorem dX5_loadShare_24 : decode cX5_loadShare 24 = .ok (.ddiv, 1) := by decide +kernel
theorem dX5_loadShare_25 : decode cX5_loadShare 25 = .ok (.dreturn, 1) := by decide +kernel
theorem dX5_meanPower_0 : decode cX5_meanPower 0 = .ok (.aload_n 0, 1) := by decide +kernel
theorem dX5_meanPower_1 : decode cX5_meanPower 1 = .ok (.getfield 10, 3) := by decide +kernel
theorem dX5_meanPower_4 : decode cX5_meanPower 4 = .ok (.getfield 186, 3) := by decide +kernel
theorem dX5_meanPower_7 : decode cX5_meanPower 7 = .ok (.ifCond .ne 5, 3) := by decide +kernel
theorem dX5_meanPower_10 : decode cX5_meanPower 10 = .ok (.fconst 0, 1) := by decide +kernel
theorem dX5_meanPower_11 : decode cX5_meanPower 11 = .ok (.freturn, 1) := by decide +kernel
theorem dX5_meanPower_12 : decode cX5_meanPower 12 = .ok (.aload_n 0, 1) := by decide +kernel
theorem dX5_meanPower_13 : decode cX5_meanPower 13 = .ok (.getfield 10, 3) := by decide +kernel
theorem dX5_meanPower_16 : decode cX5_meanPower 16 = .ok (.getfield 228, 3) := by decide +kernel
theorem dX5_meanPower_19 : decode cX5_meanPower 19 = .ok (.i2f, 1) := by decide +kernel
theorem dX5_meanPower_20 : decode cX5_meanPower 20 = .ok (.aload_n 0, 1) := by decide +kernel
theorem dX5_meanPower_21 : decode cX5_meanPower 21 = .ok (.getfield 10, 3) := by decide +kernel
theorem dX5_meanPower_24 : decode cX5_meanPower 24 = .ok (.getfield 186, 3) := by decide +kernel
theorem dX5_meanPower_27 : decode cX5_meanPower 27 = .ok (.i2f, 1) := by decide +kernel
theorem dX5_meanPower_28 : decode cX5_meanPower 28 = .ok (.fdiv, 1) := by decide +kernel
theorem dX5_meanPower_29 : decode cX5_meanPower 29 = .ok (.freturn, 1) := by decide +kernel
theorem dX5_isSet_0 : decode cX5_isSet 0 = .ok (.iload_n 0, 1) := by decide +kernel
theorem dX5_isSet_1 : decode cX5_isSet 1 = .ok (.ifCond .lt 12, 3) := by decide +kernel
theorem dX5_isSet_4 : decode cX5_isSet 4 = .ok (.iload_n 0, 1) := by decide +kernel
theorem dX5_isSet_5 : decode cX5_isSet 5 = .ok (.iconst 3, 1) := by decide +kernel
theorem dX5_isSet_6 : decode cX5_isSet 6 = .ok (.if_icmp .ge 7, 3) := by decide +kernel
theorem dX5_isSet_9 : decode cX5_isSet 9 = .ok (.iconst 1, 1) := by decide +kernel
theorem dX5_isSet_10 : decode cX5_isSet 10 = .ok (.goto 4, 3) := by decide +kernel
theorem dX5_isSet_13 : decode cX5_isSet 13 = .ok (.iconst 0, 1) := by decide +kernel
theorem dX5_isSet_14 : decode cX5_isSet 14 = .ok (.ireturn, 1) := by decide +kernel
theorem dX5_isFeeder_0 : decode cX5_isFeeder 0 = .ok (.iload_n 0, 1) := by decide +kernel
theorem dX5_isFeeder_1 : decode cX5_isFeeder 1 = .ok (.ifCond .lt 12, 3) := by decide +kernel
theorem dX5_isFeeder_4 : decode cX5_isFeeder 4 = .ok (.iload_n 0, 1) := by decide +kernel
theorem dX5_isFeeder_5 : decode cX5_isFeeder 5 = .ok (.iconst 4, 1) := by decide +kernel
theorem dX5_isFeeder_6 : decode cX5_isFeeder 6 = .ok (.if_icmp .ge 7, 3) := by decide +kernel
theorem dX5_isFeeder_9 : decode cX5_isFeeder 9 = .ok (.iconst 1, 1) := by decide +kernel
theorem dX5_isFeeder_10 : decode cX5_isFeeder 10 = .ok (.goto 4, 3) := by decide +kernel
theorem dX5_isFeeder_13 : decode cX5_isFeeder 13 = .ok (.iconst 0, 1) := by decide +kernel
theorem dX5_isFeeder_14 : decode cX5_isFeeder 14 = .ok (.ireturn, 1) := by decide +kernel
set_option maxRecDepth 100000 in
theorem ggX5_needSet_X5_isSet : GoodIn wsX5_needSet wsX5_isSet := goodIn_r _ [6] rfl (by decide +kernel)
set_option maxRecDepth 100000 in
theorem gX5_needSet_X5_isSet : GoodIn wsX5_needSet (va_wsS RX5 265 yX5_isSet wsX5_isSet) := goodIn_app (goodIn_r _ [3, 4, 5] rfl (by decide +kernel)) ggX5_needSet_X5_isSet
theorem dX5_needSet_0 : decode cX5_needSet 0 = .ok (.iload_n 0, 1) := by decide +kernel
theorem dX5_needSet_1 : decode cX5_needSet 1 = .ok (.invokestatic 265, 3) := by decide +kernel
theorem dX5_needSet_4 : decode cX5_needSet 4 = .ok (.ifCond .ne 14, 3) := by decide +kernel
theorem dX5_needSet_7 : decode cX5_needSet 7 = .ok (.new 269, 3) := by decide +kernel
theorem dX5_needSet_10 : decode cX5_needSet 10 = .ok (.dup, 1) := by decide +kernel
theorem dX5_needSet_11 : decode cX5_needSet 11 = .ok (.ldc_w 271, 3) := by decide +kernel
theorem dX5_needSet_14 : decode cX5_needSet 14 = .ok (.invokespecial 273, 3) := by decide +kernel
theorem dX5_needSet_17 : decode cX5_needSet 17 = .ok (.athrow, 1) := by decide +kernel
theorem dX5_needSet_18 : decode cX5_needSet 18 = .ok (.return_, 1) := by decide +kernel
set_option maxRecDepth 100000 in
theorem ggX5_needFeeder_X5_isFeeder : GoodIn wsX5_needFeeder wsX5_isFeeder := goodIn_r _ [6] rfl (by decide +kernel)
set_option maxRecDepth 100000 in
theorem gX5_needFeeder_X5_isFeeder : GoodIn wsX5_needFeeder (va_wsS RX5 274 yX5_isFeeder wsX5_isFeeder) := goodIn_app (goodIn_r _ [3, 4, 5] rfl (by decide +kernel)) ggX5_needFeeder_X5_isFeeder
theorem dX5_needFeeder_0 : decode cX5_needFeeder 0 = .ok (.iload_n 0, 1) := by decide +kernel
theorem dX5_needFeeder_1 : decode cX5_needFeeder 1 = .ok (.invokestatic 274, 3) := by decide +kernel
theorem dX5_needFeeder_4 : decode cX5_needFeeder 4 = .ok (.ifCond .ne 14, 3) := by decide +kernel
theorem dX5_needFeeder_7 : decode cX5_needFeeder 7 = .ok (.new 269, 3) := by decide +kernel
theorem dX5_needFeeder_10 : decode cX5_needFeeder 10 = .ok (.dup, 1) := by decide +kernel
theorem dX5_needFeeder_11 : decode cX5_needFeeder 11 = .ok (.ldc_w 277, 3) := by decide +kernel
theorem dX5_needFeeder_14 : decode cX5_needFeeder 14 = .ok (.invokespecial 273, 3) := by decide +kernel
theorem dX5_needFeeder_17 : decode cX5_needFeeder 17 = .ok (.athrow, 1) := by decide +kernel
theorem dX5_needFeeder_18 : decode cX5_needFeeder 18 = .ok (.return_, 1) := by decide +kernel
theorem dX5_needSetting_0 : decode cX5_needSetting 0 = .ok (.iload_n 0, 1) := by decide +kernel
theorem dX5_needSetting_1 : decode cX5_needSetting 1 = .ok (.ifCond .lt 8, 3) := by decide +kernel
theorem dX5_needSetting_4 : decode cX5_needSetting 4 = .ok (.iload_n 0, 1) := by decide +kernel
theorem dX5_needSetting_5 : decode cX5_needSetting 5 = .ok (.iconst 4, 1) := by decide +kernel
theorem dX5_needSetting_6 : decode cX5_needSetting 6 = .ok (.if_icmp .lt 14, 3) := by decide +kernel
theorem dX5_needSetting_9 : decode cX5_needSetting 9 = .ok (.new 269, 3) := by decide +kernel
theorem dX5_needSetting_12 : decode cX5_needSetting 12 = .ok (.dup, 1) := by decide +kernel
theorem dX5_needSetting_13 : decode cX5_needSetting 13 = .ok (.ldc_w 279, 3) := by decide +kernel
theorem dX5_needSetting_16 : decode cX5_needSetting 16 = .ok (.invokespecial 273, 3) := by decide +kernel
theorem dX5_needSetting_19 : decode cX5_needSetting 19 = .ok (.athrow, 1) := by decide +kernel
theorem dX5_needSetting_20 : decode cX5_needSetting 20 = .ok (.return_, 1) := by decide +kernel
theorem dX5_needRange_0 : decode cX5_needRange 0 = .ok (.iload_n 0, 1) := by decide +kernel
theorem dX5_needRange_1 : decode cX5_needRange 1 = .ok (.iload_n 1, 1) := by decide +kernel
theorem dX5_needRange_2 : decode cX5_needRange 2 = .ok (.if_icmp .lt 8, 3) := by decide +kernel
theorem dX5_needRange_5 : decode cX5_needRange 5 = .ok (.iload_n 0, 1) := by decide +kernel
theorem dX5_needRange_6 : decode cX5_needRange 6 = .ok (.iload_n 2, 1) := by decide +kernel
theorem dX5_needRange_7 : decode cX5_needRange 7 = .ok (.if_icmp .le 14, 3) := by decide +kernel
theorem dX5_needRange_10 : decode cX5_needRange 10 = .ok (.new 168, 3) := by decide +kernel
theorem dX5_needRange_13 : decode cX5_needRange 13 = .ok (.dup, 1) := by decide +kernel
theorem dX5_needRange_14 : decode cX5_needRange 14 = .ok (.ldc_w 281, 3) := by decide +kernel
theorem dX5_needRange_17 : decode cX5_needRange 17 = .ok (.invokespecial 172, 3) := by decide +kernel
theorem dX5_needRange_20 : decode cX5_needRange 20 = .ok (.athrow, 1) := by decide +kernel
theorem dX5_needRange_21 : decode cX5_needRange 21 = .ok (.return_, 1) := by decide +kernel
set_option maxRecDepth 100000 in
theorem ggX5_tellOfSet_X5_oneIf : GoodIn wsX5_tellOfSet wsX5_oneIf := goodIn_r _ [16] rfl (by decide +kernel)
set_option maxRecDepth 100000 in
theorem gX5_tellOfSet_X5_oneIf : GoodIn wsX5_tellOfSet (va_wsS RX5 131 yX5_oneIf wsX5_oneIf) := goodIn_app (goodIn_r _ [13, 14, 15] rfl (by decide +kernel)) ggX5_tellOfSet_X5_oneIf
set_option maxRecDepth 100000 in
theorem ggX5_tellOfSet_X0_frequency : GoodIn wsX5_tellOfSet wsX0_frequency := goodIn_r _ [21, 22, 23, 24, 20, 25, 26, 27, 28, 29, 30, 31, 32, 33, 34, 35, 36, 37, 38, 39, 40, 41, 42, 43, 44, 45, 46, 47, 86, 87, 88, 89, 90, 91, 92, 93, 94, 95, 96, 97, 98, 99, 100, 101, 102, 103] rfl (by decide +kernel)
set_option maxRecDepth 100000 in
theorem gX5_tellOfSet_X0_frequency : GoodIn wsX5_tellOfSet (wsV RX5 105 RX0 yX0_frequency wsX0_frequency) := goodIn_app (goodIn_r _ [17, 18, 19, 20] rfl (by decide +kernel)) ggX5_tellOfSet_X0_frequency
set_option maxRecDepth 100000 in
theorem ggX5_tellOfSet_X0_power : GoodIn wsX5_tellOfSet wsX0_power := goodIn_r _ [51, 26, 52, 53, 54, 55, 39, 40, 41, 42, 43, 44, 45, 46, 47, 56, 57, 58, 20, 59, 27, 35, 36, 37, 38, 28, 29, 30, 31, 32, 33, 34, 22, 23, 24, 25, 86, 87, 88, 89, 90, 91, 92, 93, 94, 95, 96, 97, 98, 99, 100, 101, 102, 103] rfl (by decide +kernel)
set_option maxRecDepth 100000 in
theorem gX5_tellOfSet_X0_power : GoodIn wsX5_tellOfSet (wsV RX5 293 RX0 yX0_power wsX0_power) := goodIn_app (goodIn_r _ [48, 49, 50, 20] rfl (by decide +kernel)) ggX5_tellOfSet_X0_power
set_option maxRecDepth 100000 in
theorem ggX5_tellOfSet_X1_lamps : GoodIn wsX5_tellOfSet wsX1_lamps := goodIn_r _ [63, 64, 65, 66, 54, 67, 91, 92, 93, 94, 95, 96, 97, 98, 99, 100] rfl (by decide +kernel)
set_option maxRecDepth 100000 in
theorem gX5_tellOfSet_X1_lamps : GoodIn wsX5_tellOfSet (wsV RX5 299 RX1 yX1_lamps wsX1_lamps) := goodIn_app (goodIn_r _ [60, 61, 62, 42] rfl (by decide +kernel)) ggX5_tellOfSet_X1_lamps
set_option maxRecDepth 100000 in
theorem ggX5_tellOfSet_X0_whyNotClosed : GoodIn wsX5_tellOfSet wsX0_whyNotClosed := goodIn_r _ [71, 26, 72, 27, 73, 74, 75, 54, 76, 77, 22, 23, 24, 20, 25, 78, 18, 19, 21, 28, 29, 30, 31, 32, 33, 34, 35, 36, 37, 38, 39, 40, 41, 42, 43, 44, 45, 46, 47, 79, 61, 62, 63, 64, 65, 66, 67, 86, 87, 88, 89, 90, 91, 92, 93, 94, 95, 96, 97, 98, 99, 100, 101, 102, 103] rfl (by decide +kernel)
set_option maxRecDepth 100000 in
theorem gX5_tellOfSet_X0_whyNotClosed : GoodIn wsX5_tellOfSet (wsV RX5 96 RX0 yX0_whyNotClosed wsX0_whyNotClosed) := goodIn_app (goodIn_r _ [68, 69, 70, 20] rfl (by decide +kernel)) ggX5_tellOfSet_X0_whyNotClosed
theorem dX5_tellOfSet_0 : decode cX5_tellOfSet 0 = .ok (.aload_n 0, 1) := by decide +kernel
theorem dX5_tellOfSet_1 : decode cX5_tellOfSet 1 = .ok (.getfield 10, 3) := by decide +kernel
theorem dX5_tellOfSet_4 : decode cX5_tellOfSet 4 = .ok (.getfield 44, 3) := by decide +kernel
theorem dX5_tellOfSet_7 : decode cX5_tellOfSet 7 = .ok (.iload_n 1, 1) := by decide +kernel
theorem dX5_tellOfSet_8 : decode cX5_tellOfSet 8 = .ok (.aaload, 1) := by decide +kernel
theorem dX5_tellOfSet_9 : decode cX5_tellOfSet 9 = .ok (.astore_n 3, 1) := by decide +kernel
theorem dX5_tellOfSet_10 : decode cX5_tellOfSet 10 = .ok (.iload_n 2, 1) := by decide +kernel
theorem dX5_tellOfSet_11 : decode cX5_tellOfSet 11 = .ok (.tableswitch 138 0 11 #[61, 66, 71, 76, 84, 92, 108, 113, 118, 123, 128, 133], 61) := by decide +kernel
theorem dX5_tellOfSet_72 : decode cX5_tellOfSet 72 = .ok (.aload_n 3, 1) := by decide +kernel
theorem dX5_tellOfSet_73 : decode cX5_tellOfSet 73 = .ok (.getfield 65, 3) := by decide +kernel
theorem dX5_tellOfSet_76 : decode cX5_tellOfSet 76 = .ok (.ireturn, 1) := by decide +kernel
theorem dX5_tellOfSet_77 : decode cX5_tellOfSet 77 = .ok (.aload_n 3, 1) := by decide +kernel
theorem dX5_tellOfSet_78 : decode cX5_tellOfSet 78 = .ok (.getfield 69, 3) := by decide +kernel
theorem dX5_tellOfSet_81 : decode cX5_tellOfSet 81 = .ok (.ireturn, 1) := by decide +kernel
theorem dX5_tellOfSet_82 : decode cX5_tellOfSet 82 = .ok (.aload_n 3, 1) := by decide +kernel
theorem dX5_tellOfSet_83 : decode cX5_tellOfSet 83 = .ok (.getfield 72, 3) := by decide +kernel
theorem dX5_tellOfSet_86 : decode cX5_tellOfSet 86 = .ok (.ireturn, 1) := by decide +kernel
theorem dX5_tellOfSet_87 : decode cX5_tellOfSet 87 = .ok (.aload_n 3, 1) := by decide +kernel
theorem dX5_tellOfSet_88 : decode cX5_tellOfSet 88 = .ok (.getfield 48, 3) := by decide +kernel
theorem dX5_tellOfSet_91 : decode cX5_tellOfSet 91 = .ok (.invokestatic 131, 3) := by decide +kernel
theorem dX5_tellOfSet_94 : decode cX5_tellOfSet 94 = .ok (.ireturn, 1) := by decide +kernel
theorem dX5_tellOfSet_95 : decode cX5_tellOfSet 95 = .ok (.aload_n 3, 1) := by decide +kernel
theorem dX5_tellOfSet_96 : decode cX5_tellOfSet 96 = .ok (.getfield 108, 3) := by decide +kernel
theorem dX5_tellOfSet_99 : decode cX5_tellOfSet 99 = .ok (.invokestatic 131, 3) := by decide +kernel
theorem dX5_tellOfSet_102 : decode cX5_tellOfSet 102 = .ok (.ireturn, 1) := by decide +kernel
theorem dX5_tellOfSet_103 : decode cX5_tellOfSet 103 = .ok (.aload_n 0, 1) := by decide +kernel
theorem dX5_tellOfSet_104 : decode cX5_tellOfSet 104 = .ok (.getfield 10, 3) := by decide +kernel
theorem dX5_tellOfSet_107 : decode cX5_tellOfSet 107 = .ok (.iload_n 1, 1) := by decide +kernel
theorem dX5_tellOfSet_108 : decode cX5_tellOfSet 108 = .ok (.aload_n 0, 1) := by decide +kernel
theorem dX5_tellOfSet_109 : decode cX5_tellOfSet 109 = .ok (.getfield 10, 3) := by decide +kernel
theorem dX5_tellOfSet_112 : decode cX5_tellOfSet 112 = .ok (.invokevirtual 105, 3) := by decide +kernel
theorem dX5_tellOfSet_115 : decode cX5_tellOfSet 115 = .ok (.invokevirtual 293, 3) := by decide +kernel
theorem dX5_tellOfSet_118 : decode cX5_tellOfSet 118 = .ok (.ireturn, 1) := by decide +kernel
theorem dX5_tellOfSet_119 : decode cX5_tellOfSet 119 = .ok (.aload_n 3, 1) := by decide +kernel
theorem dX5_tellOfSet_120 : decode cX5_tellOfSet 120 = .ok (.getfield 296, 3) := by decide +kernel
theorem dX5_tellOfSet_123 : decode cX5_tellOfSet 123 = .ok (.ireturn, 1) := by decide +kernel
theorem dX5_tellOfSet_124 : decode cX5_tellOfSet 124 = .ok (.aload_n 3, 1) := by decide +kernel
theorem dX5_tellOfSet_125 : decode cX5_tellOfSet 125 = .ok (.invokevirtual 299, 3) := by decide +kernel
theorem dX5_tellOfSet_128 : decode cX5_tellOfSet 128 = .ok (.ireturn, 1) := by decide +kernel
theorem dX5_tellOfSet_129 : decode cX5_tellOfSet 129 = .ok (.aload_n 3, 1) := by decide +kernel
theorem dX5_tellOfSet_130 : decode cX5_tellOfSet 130 = .ok (.getfield 302, 3) := by decide +kernel
theorem dX5_tellOfSet_133 : decode cX5_tellOfSet 133 = .ok (.ireturn, 1) := by decide +kernel
theorem dX5_tellOfSet_134 : decode cX5_tellOfSet 134 = .ok (.aload_n 3, 1) := by decide +kernel
theorem dX5_tellOfSet_135 : decode cX5_tellOfSet 135 = .ok (.getfield 305, 3) := by decide +kernel
theorem dX5_tellOfSet_138 : decode cX5_tellOfSet 138 = .ok (.ireturn, 1) := by decide +kernel
theorem dX5_tellOfSet_139 : decode cX5_tellOfSet 139 = .ok (.aload_n 3, 1) := by decide +kernel
theorem dX5_tellOfSet_140 : decode cX5_tellOfSet 140 = .ok (.getfield 308, 3) := by decide +kernel
theorem dX5_tellOfSet_143 : decode cX5_tellOfSet 143 = .ok (.ireturn, 1) := by decide +kernel
theorem dX5_tellOfSet_144 : decode cX5_tellOfSet 144 = .ok (.aload_n 3, 1) := by decide +kernel
theorem dX5_tellOfSet_145 : decode cX5_tellOfSet 145 = .ok (.getfield 309, 3) := by decide +kernel
theorem dX5_tellOfSet_148 : decode cX5_tellOfSet 148 = .ok (.ireturn, 1) := by decide +kernel
theorem dX5_tellOfSet_149 : decode cX5_tellOfSet 149 = .ok (.aload_n 0, 1) := by decide +kernel
theorem dX5_tellOfSet_150 : decode cX5_tellOfSet 150 = .ok (.getfield 10, 3) := by decide +kernel
theorem dX5_tellOfSet_153 : decode cX5_tellOfSet 153 = .ok (.iload_n 1, 1) := by decide +kernel
theorem dX5_tellOfSet_154 : decode cX5_tellOfSet 154 = .ok (.invokevirtual 96, 3) := by decide +kernel
theorem dX5_tellOfSet_157 : decode cX5_tellOfSet 157 = .ok (.ireturn, 1) := by decide +kernel
set_option maxRecDepth 100000 in
theorem ggX5_tellOfFeeder_X5_oneIf : GoodIn wsX5_tellOfFeeder wsX5_oneIf := goodIn_r _ [9] rfl (by decide +kernel)
set_option maxRecDepth 100000 in
theorem gX5_tellOfFeeder_X5_oneIf : GoodIn wsX5_tellOfFeeder (va_wsS RX5 131 yX5_oneIf wsX5_oneIf) := goodIn_app (goodIn_r _ [6, 7, 8] rfl (by decide +kernel)) ggX5_tellOfFeeder_X5_oneIf
theorem dX5_tellOfFeeder_0 : decode cX5_tellOfFeeder 0 = .ok (.iload_n 2, 1) := by decide +kernel
theorem dX5_tellOfFeeder_1 : decode cX5_tellOfFeeder 1 = .ok (.lookupswitch 56 #[(0, 27), (1, 40)], 27) := by decide +kernel
theorem dX5_tellOfFeeder_28 : decode cX5_tellOfFeeder 28 = .ok (.aload_n 0, 1) := by decide +kernel
theorem dX5_tellOfFeeder_29 : decode cX5_tellOfFeeder 29 = .ok (.getfield 10, 3) := by decide +kernel
theorem dX5_tellOfFeeder_32 : decode cX5_tellOfFeeder 32 = .ok (.getfield 119, 3) := by decide +kernel
theorem dX5_tellOfFeeder_35 : decode cX5_tellOfFeeder 35 = .ok (.iload_n 1, 1) := by decide +kernel
theorem dX5_tellOfFeeder_36 : decode cX5_tellOfFeeder 36 = .ok (.aaload, 1) := by decide +kernel
theorem dX5_tellOfFeeder_37 : decode cX5_tellOfFeeder 37 = .ok (.getfield 123, 3) := by decide +kernel
theorem dX5_tellOfFeeder_40 : decode cX5_tellOfFeeder 40 = .ok (.ireturn, 1) := by decide +kernel
theorem dX5_tellOfFeeder_41 : decode cX5_tellOfFeeder 41 = .ok (.aload_n 0, 1) := by decide +kernel
theorem dX5_tellOfFeeder_42 : decode cX5_tellOfFeeder 42 = .ok (.getfield 10, 3) := by decide +kernel
theorem dX5_tellOfFeeder_45 : decode cX5_tellOfFeeder 45 = .ok (.getfield 119, 3) := by decide +kernel
theorem dX5_tellOfFeeder_48 : decode cX5_tellOfFeeder 48 = .ok (.iload_n 1, 1) := by decide +kernel
theorem dX5_tellOfFeeder_49 : decode cX5_tellOfFeeder 49 = .ok (.aaload, 1) := by decide +kernel
theorem dX5_tellOfFeeder_50 : decode cX5_tellOfFeeder 50 = .ok (.getfield 128, 3) := by decide +kernel
theorem dX5_tellOfFeeder_53 : decode cX5_tellOfFeeder 53 = .ok (.invokestatic 131, 3) := by decide +kernel
theorem dX5_tellOfFeeder_56 : decode cX5_tellOfFeeder 56 = .ok (.ireturn, 1) := by decide +kernel
theorem dX5_tellOfFeeder_57 : decode cX5_tellOfFeeder 57 = .ok (.aload_n 0, 1) := by decide +kernel
theorem dX5_tellOfFeeder_58 : decode cX5_tellOfFeeder 58 = .ok (.getfield 10, 3) := by decide +kernel
theorem dX5_tellOfFeeder_61 : decode cX5_tellOfFeeder 61 = .ok (.getfield 119, 3) := by decide +kernel
theorem dX5_tellOfFeeder_64 : decode cX5_tellOfFeeder 64 = .ok (.iload_n 1, 1) := by decide +kernel
theorem dX5_tellOfFeeder_65 : decode cX5_tellOfFeeder 65 = .ok (.aaload, 1) := by decide +kernel
theorem dX5_tellOfFeeder_66 : decode cX5_tellOfFeeder 66 = .ok (.getfield 312, 3) := by decide +kernel
theorem dX5_tellOfFeeder_69 : decode cX5_tellOfFeeder 69 = .ok (.ireturn, 1) := by decide +kernel
set_option maxRecDepth 100000 in
theorem ggX5_tellCount_X0_frequencyDownwards : GoodIn wsX5_tellCount wsX0_frequencyDownwards := goodIn_r _ [10, 11, 12, 13, 9, 14, 15, 16, 17, 18, 19, 20, 21, 22, 23, 24, 25, 26, 27, 28, 29, 30, 31, 32, 33, 34, 35, 36, 90, 91, 92, 93, 94, 97, 98, 99, 100, 101, 102, 103, 104, 105, 106, 107, 108, 109] rfl (by decide +kernel)
set_option maxRecDepth 100000 in
theorem gX5_tellCount_X0_frequencyDownwards : GoodIn wsX5_tellCount (wsV RX5 315 RX0 yX0_frequencyDownwards wsX0_frequencyDownwards) := goodIn_app (goodIn_r _ [6, 7, 8, 9] rfl (by decide +kernel)) ggX5_tellCount_X0_frequencyDownwards
set_option maxRecDepth 100000 in
theorem ggX5_tellCount_X0_frequency : GoodIn wsX5_tellCount wsX0_frequency := goodIn_r _ [40, 11, 12, 13, 9, 14, 15, 16, 17, 18, 19, 20, 21, 22, 23, 24, 25, 26, 27, 28, 29, 30, 31, 32, 33, 34, 35, 36, 90, 91, 92, 93, 94, 97, 98, 99, 100, 101, 102, 103, 104, 105, 106, 107, 108, 109] rfl (by decide +kernel)
set_option maxRecDepth 100000 in
theorem gX5_tellCount_X0_frequency : GoodIn wsX5_tellCount (wsV RX5 105 RX0 yX0_frequency wsX0_frequency) := goodIn_app (goodIn_r _ [37, 38, 39, 9] rfl (by decide +kernel)) ggX5_tellCount_X0_frequency
set_option maxRecDepth 100000 in
theorem ggX5_tellCount_X0_demand : GoodIn wsX5_tellCount wsX0_demand := goodIn_r _ [20, 21, 22, 23, 11, 12, 13, 9, 14, 15, 16, 90, 91, 92, 93, 94, 107, 108, 109, 97, 98, 99, 100, 101, 102, 103, 104, 105, 106] rfl (by decide +kernel)
set_option maxRecDepth 100000 in
theorem gX5_tellCount_X0_demand : GoodIn wsX5_tellCount (wsV RX5 225 RX0 yX0_demand wsX0_demand) := goodIn_app (goodIn_r _ [41, 18, 19, 9] rfl (by decide +kernel)) ggX5_tellCount_X0_demand
set_option maxRecDepth 100000 in
theorem ggX5_tellCount_X0_powers : GoodIn wsX5_tellCount wsX0_powers := goodIn_r _ [45, 15, 46, 47, 48, 9, 49, 50, 51, 52, 53, 28, 29, 30, 31, 32, 33, 34, 35, 36, 54, 55, 56, 57, 16, 24, 25, 26, 27, 17, 18, 19, 20, 21, 22, 23, 11, 12, 13, 14, 90, 91, 92, 93, 94, 97, 98, 99, 100, 101, 102, 103, 104, 105, 106, 107, 108, 109] rfl (by decide +kernel)
set_option maxRecDepth 100000 in
theorem gX5_tellCount_X0_powers : GoodIn wsX5_tellCount (wsV RX5 318 RX0 yX0_powers wsX0_powers) := goodIn_app (goodIn_r _ [42, 43, 44, 9] rfl (by decide +kernel)) ggX5_tellCount_X0_powers
set_option maxRecDepth 100000 in
theorem ggX5_tellCount_X0_lack : GoodIn wsX5_tellCount wsX0_lack := goodIn_r _ [61, 50, 51, 52, 53, 17, 18, 19, 9, 20, 21, 22, 23, 11, 12, 13, 14, 15, 16, 24, 25, 26, 27, 28, 29, 30, 31, 32, 33, 34, 35, 36, 90, 91, 92, 93, 94, 107, 108, 109, 97, 98, 99, 100, 101, 102, 103, 104, 105, 106] rfl (by decide +kernel)
set_option maxRecDepth 100000 in
theorem gX5_tellCount_X0_lack : GoodIn wsX5_tellCount (wsV RX5 321 RX0 yX0_lack wsX0_lack) := goodIn_app (goodIn_r _ [58, 59, 60, 9] rfl (by decide +kernel)) ggX5_tellCount_X0_lack
set_option maxRecDepth 100000 in
theorem ggX5_tellCount_X0_running : GoodIn wsX5_tellCount wsX0_running := goodIn_r _ [65, 15, 66, 67, 68, 69, 90, 91, 92, 93, 94, 97, 98, 99, 100, 101, 102, 103, 104, 105, 106] rfl (by decide +kernel)
set_option maxRecDepth 100000 in
theorem gX5_tellCount_X0_running : GoodIn wsX5_tellCount (wsV RX5 84 RX0 yX0_running wsX0_running) := goodIn_app (goodIn_r _ [62, 63, 64, 9] rfl (by decide +kernel)) ggX5_tellCount_X0_running
set_option maxRecDepth 100000 in
theorem ggX5_tellCount_X0_closedBreakers : GoodIn wsX5_tellCount wsX0_closedBreakers := goodIn_r _ [73, 15, 16, 67, 68, 69, 90, 91, 92, 93, 94, 97, 98, 99, 100, 101, 102, 103, 104, 105, 106] rfl (by decide +kernel)
set_option maxRecDepth 100000 in
theorem gX5_tellCount_X0_closedBreakers : GoodIn wsX5_tellCount (wsV RX5 324 RX0 yX0_closedBreakers wsX0_closedBreakers) := goodIn_app (goodIn_r _ [70, 71, 72, 9] rfl (by decide +kernel)) ggX5_tellCount_X0_closedBreakers
set_option maxRecDepth 100000 in
theorem ggX5_tellCount_X0_trips : GoodIn wsX5_tellCount wsX0_trips := goodIn_r _ [77, 15, 78, 90, 91, 92, 93, 94, 97, 98, 99, 100, 101, 102, 103, 104, 105, 106] rfl (by decide +kernel)
set_option maxRecDepth 100000 in
theorem gX5_tellCount_X0_trips : GoodIn wsX5_tellCount (wsV RX5 327 RX0 yX0_trips wsX0_trips) := goodIn_app (goodIn_r _ [74, 75, 76, 9] rfl (by decide +kernel)) ggX5_tellCount_X0_trips
set_option maxRecDepth 100000 in
theorem ggX5_tellCount_X0_sheds : GoodIn wsX5_tellCount wsX0_sheds := goodIn_r _ [82, 21, 83, 90, 91, 92, 93, 94, 107, 108, 109] rfl (by decide +kernel)
set_option maxRecDepth 100000 in
theorem gX5_tellCount_X0_sheds : GoodIn wsX5_tellCount (wsV RX5 329 RX0 yX0_sheds wsX0_sheds) := goodIn_app (goodIn_r _ [79, 80, 81, 9] rfl (by decide +kernel)) ggX5_tellCount_X0_sheds
theorem dX5_tellCount_0 : decode cX5_tellCount 0 = .ok (.iload_n 1, 1) := by decide +kernel
theorem dX5_tellCount_1 : decode cX5_tellCount 1 = .ok (.tableswitch 161 0 10 #[59, 67, 75, 83, 91, 106, 121, 129, 137, 145, 153], 59) := by decide +kernel
theorem dX5_tellCount_60 : decode cX5_tellCount 60 = .ok (.aload_n 0, 1) := by decide +kernel
theorem dX5_tellCount_61 : decode cX5_tellCount 61 = .ok (.getfield 10, 3) := by decide +kernel
theorem dX5_tellCount_64 : decode cX5_tellCount 64 = .ok (.getfield 186, 3) := by decide +kernel
theorem dX5_tellCount_67 : decode cX5_tellCount 67 = .ok (.ireturn, 1) := by decide +kernel
theorem dX5_tellCount_68 : decode cX5_tellCount 68 = .ok (.aload_n 0, 1) := by decide +kernel
theorem dX5_tellCount_69 : decode cX5_tellCount 69 = .ok (.getfield 10, 3) := by decide +kernel
theorem dX5_tellCount_72 : decode cX5_tellCount 72 = .ok (.invokevirtual 315, 3) := by decide +kernel
theorem dX5_tellCount_75 : decode cX5_tellCount 75 = .ok (.ireturn, 1) := by decide +kernel
theorem dX5_tellCount_76 : decode cX5_tellCount 76 = .ok (.aload_n 0, 1) := by decide +kernel
theorem dX5_tellCount_77 : decode cX5_tellCount 77 = .ok (.getfield 10, 3) := by decide +kernel
theorem dX5_tellCount_80 : decode cX5_tellCount 80 = .ok (.invokevirtual 105, 3) := by decide +kernel
theorem dX5_tellCount_83 : decode cX5_tellCount 83 = .ok (.ireturn, 1) := by decide +kernel
theorem dX5_tellCount_84 : decode cX5_tellCount 84 = .ok (.aload_n 0, 1) := by decide +kernel
theorem dX5_tellCount_85 : decode cX5_tellCount 85 = .ok (.getfield 10, 3) := by decide +kernel
theorem dX5_tellCount_88 : decode cX5_tellCount 88 = .ok (.invokevirtual 225, 3) := by decide +kernel
theorem dX5_tellCount_91 : decode cX5_tellCount 91 = .ok (.ireturn, 1) := by decide +kernel
theorem dX5_tellCount_92 : decode cX5_tellCount 92 = .ok (.aload_n 0, 1) := by decide +kernel
theorem dX5_tellCount_93 : decode cX5_tellCount 93 = .ok (.getfield 10, 3) := by decide +kernel
theorem dX5_tellCount_96 : decode cX5_tellCount 96 = .ok (.aload_n 0, 1) := by decide +kernel
theorem dX5_tellCount_97 : decode cX5_tellCount 97 = .ok (.getfield 10, 3) := by decide +kernel
theorem dX5_tellCount_100 : decode cX5_tellCount 100 = .ok (.invokevirtual 105, 3) := by decide +kernel
theorem dX5_tellCount_103 : decode cX5_tellCount 103 = .ok (.invokevirtual 318, 3) := by decide +kernel
theorem dX5_tellCount_106 : decode cX5_tellCount 106 = .ok (.ireturn, 1) := by decide +kernel
theorem dX5_tellCount_107 : decode cX5_tellCount 107 = .ok (.aload_n 0, 1) := by decide +kernel
theorem dX5_tellCount_108 : decode cX5_tellCount 108 = .ok (.getfield 10, 3) := by decide +kernel
theorem dX5_tellCount_111 : decode cX5_tellCount 111 = .ok (.aload_n 0, 1) := by decide +kernel
theorem dX5_tellCount_112 : decode cX5_tellCount 112 = .ok (.getfield 10, 3) := by decide +kernel
theorem dX5_tellCount_115 : decode cX5_tellCount 115 = .ok (.invokevirtual 105, 3) := by decide +kernel
theorem dX5_tellCount_118 : decode cX5_tellCount 118 = .ok (.invokevirtual 321, 3) := by decide +kernel
theorem dX5_tellCount_121 : decode cX5_tellCount 121 = .ok (.ireturn, 1) := by decide +kernel
theorem dX5_tellCount_122 : decode cX5_tellCount 122 = .ok (.aload_n 0, 1) := by decide +kernel
theorem dX5_tellCount_123 : decode cX5_tellCount 123 = .ok (.getfield 10, 3) := by decide +kernel
theorem dX5_tellCount_126 : decode cX5_tellCount 126 = .ok (.invokevirtual 84, 3) := by decide +kernel
theorem dX5_tellCount_129 : decode cX5_tellCount 129 = .ok (.ireturn, 1) := by decide +kernel
theorem dX5_tellCount_130 : decode cX5_tellCount 130 = .ok (.aload_n 0, 1) := by decide +kernel
theorem dX5_tellCount_131 : decode cX5_tellCount 131 = .ok (.getfield 10, 3) := by decide +kernel
theorem dX5_tellCount_134 : decode cX5_tellCount 134 = .ok (.invokevirtual 324, 3) := by decide +kernel
theorem dX5_tellCount_137 : decode cX5_tellCount 137 = .ok (.ireturn, 1) := by decide +kernel
theorem dX5_tellCount_138 : decode cX5_tellCount 138 = .ok (.aload_n 0, 1) := by decide +kernel
theorem dX5_tellCount_139 : decode cX5_tellCount 139 = .ok (.getfield 10, 3) := by decide +kernel
theorem dX5_tellCount_142 : decode cX5_tellCount 142 = .ok (.invokevirtual 327, 3) := by decide +kernel
theorem dX5_tellCount_145 : decode cX5_tellCount 145 = .ok (.ireturn, 1) := by decide +kernel
theorem dX5_tellCount_146 : decode cX5_tellCount 146 = .ok (.aload_n 0, 1) := by decide +kernel
theorem dX5_tellCount_147 : decode cX5_tellCount 147 = .ok (.getfield 10, 3) := by decide +kernel
theorem dX5_tellCount_150 : decode cX5_tellCount 150 = .ok (.invokevirtual 329, 3) := by decide +kernel
theorem dX5_tellCount_153 : decode cX5_tellCount 153 = .ok (.ireturn, 1) := by decide +kernel
theorem dX5_tellCount_154 : decode cX5_tellCount 154 = .ok (.aload_n 0, 1) := by decide +kernel
theorem dX5_tellCount_155 : decode cX5_tellCount 155 = .ok (.getfield 10, 3) := by decide +kernel
theorem dX5_tellCount_158 : decode cX5_tellCount 158 = .ok (.getfield 228, 3) := by decide +kernel
theorem dX5_tellCount_161 : decode cX5_tellCount 161 = .ok (.ireturn, 1) := by decide +kernel
theorem dX5_tellCount_162 : decode cX5_tellCount 162 = .ok (.aload_n 0, 1) := by decide +kernel
theorem dX5_tellCount_163 : decode cX5_tellCount 163 = .ok (.getfield 25, 3) := by decide +kernel
theorem dX5_tellCount_166 : decode cX5_tellCount 166 = .ok (.getfield 191, 3) := by decide +kernel
theorem dX5_tellCount_169 : decode cX5_tellCount 169 = .ok (.ireturn, 1) := by decide +kernel
set_option maxRecDepth 100000 in
theorem ggX5_tellIfSpeed_X0_copyFrom : GoodIn wsX5_tellIfSpeed wsX0_copyFrom := goodIn_r _ [9, 10, 11, 12, 13, 14, 15, 16, 17, 18, 19, 20, 21, 22, 23, 24, 25, 26, 27, 28, 29, 30, 31, 32, 33, 34, 35, 36, 37, 83, 84, 85, 86, 87, 88, 89, 90, 91, 92, 93, 94, 95, 96, 97, 98, 99, 100] rfl (by decide +kernel)
set_option maxRecDepth 100000 in
theorem gX5_tellIfSpeed_X0_copyFrom : GoodIn wsX5_tellIfSpeed (wsV RX5 180 RX0 yX0_copyFrom wsX0_copyFrom) := goodIn_app (goodIn_r _ [5, 6, 7, 8] rfl (by decide +kernel)) ggX5_tellIfSpeed_X0_copyFrom
set_option maxRecDepth 100000 in
theorem ggX5_tellIfSpeed_X0_frequency : GoodIn wsX5_tellIfSpeed wsX0_frequency := goodIn_r _ [41, 42, 43, 44, 8, 45, 10, 46, 47, 48, 49, 50, 11, 51, 52, 53, 54, 55, 56, 57, 58, 59, 18, 60, 24, 21, 22, 20, 83, 84, 85, 86, 87, 88, 89, 90, 91, 92, 93, 94, 95, 96, 97, 98, 99, 100] rfl (by decide +kernel)
set_option maxRecDepth 100000 in
theorem gX5_tellIfSpeed_X0_frequency : GoodIn wsX5_tellIfSpeed (wsV RX5 105 RX0 yX0_frequency wsX0_frequency) := goodIn_app (goodIn_r _ [38, 39, 40, 8] rfl (by decide +kernel)) ggX5_tellIfSpeed_X0_frequency
set_option maxRecDepth 100000 in
theorem ggX5_tellIfSpeed_X0_power : GoodIn wsX5_tellIfSpeed wsX0_power := goodIn_r _ [64, 10, 65, 66, 67, 68, 57, 58, 59, 18, 60, 24, 21, 22, 20, 69, 70, 71, 8, 72, 46, 53, 54, 55, 56, 47, 48, 49, 50, 11, 51, 52, 42, 43, 44, 45, 83, 84, 85, 86, 87, 88, 89, 90, 91, 92, 93, 94, 95, 96, 97, 98, 99, 100] rfl (by decide +kernel)
set_option maxRecDepth 100000 in
theorem gX5_tellIfSpeed_X0_power : GoodIn wsX5_tellIfSpeed (wsV RX5 293 RX0 yX0_power wsX0_power) := goodIn_app (goodIn_r _ [61, 62, 63, 8] rfl (by decide +kernel)) ggX5_tellIfSpeed_X0_power
set_option maxRecDepth 100000 in
theorem ggX5_tellIfSpeed_X0_lack : GoodIn wsX5_tellIfSpeed wsX0_lack := goodIn_r _ [76, 65, 66, 67, 68, 47, 48, 49, 8, 50, 11, 51, 52, 42, 43, 44, 45, 10, 46, 53, 54, 55, 56, 57, 58, 59, 18, 60, 24, 21, 22, 20, 83, 84, 85, 86, 87, 98, 99, 100, 88, 89, 90, 91, 92, 93, 94, 95, 96, 97] rfl (by decide +kernel)
set_option maxRecDepth 100000 in
theorem gX5_tellIfSpeed_X0_lack : GoodIn wsX5_tellIfSpeed (wsV RX5 321 RX0 yX0_lack wsX0_lack) := goodIn_app (goodIn_r _ [73, 74, 75, 8] rfl (by decide +kernel)) ggX5_tellIfSpeed_X0_lack
theorem dX5_tellIfSpeed_0 : decode cX5_tellIfSpeed 0 = .ok (.aload_n 0, 1) := by decide +kernel
theorem dX5_tellIfSpeed_1 : decode cX5_tellIfSpeed 1 = .ok (.getfield 16, 3) := by decide +kernel
theorem dX5_tellIfSpeed_4 : decode cX5_tellIfSpeed 4 = .ok (.aload_n 0, 1) := by decide +kernel
theorem dX5_tellIfSpeed_5 : decode cX5_tellIfSpeed 5 = .ok (.getfield 10, 3) := by decide +kernel
theorem dX5_tellIfSpeed_8 : decode cX5_tellIfSpeed 8 = .ok (.invokevirtual 180, 3) := by decide +kernel
theorem dX5_tellIfSpeed_11 : decode cX5_tellIfSpeed 11 = .ok (.aload_n 0, 1) := by decide +kernel
theorem dX5_tellIfSpeed_12 : decode cX5_tellIfSpeed 12 = .ok (.getfield 16, 3) := by decide +kernel
theorem dX5_tellIfSpeed_15 : decode cX5_tellIfSpeed 15 = .ok (.getfield 44, 3) := by decide +kernel
theorem dX5_tellIfSpeed_18 : decode cX5_tellIfSpeed 18 = .ok (.iload_n 1, 1) := by decide +kernel
theorem dX5_tellIfSpeed_19 : decode cX5_tellIfSpeed 19 = .ok (.aaload, 1) := by decide +kernel
theorem dX5_tellIfSpeed_20 : decode cX5_tellIfSpeed 20 = .ok (.iload_n 2, 1) := by decide +kernel
theorem dX5_tellIfSpeed_21 : decode cX5_tellIfSpeed 21 = .ok (.putfield 72, 3) := by decide +kernel
theorem dX5_tellIfSpeed_24 : decode cX5_tellIfSpeed 24 = .ok (.aload_n 0, 1) := by decide +kernel
theorem dX5_tellIfSpeed_25 : decode cX5_tellIfSpeed 25 = .ok (.getfield 16, 3) := by decide +kernel
theorem dX5_tellIfSpeed_28 : decode cX5_tellIfSpeed 28 = .ok (.invokevirtual 105, 3) := by decide +kernel
theorem dX5_tellIfSpeed_31 : decode cX5_tellIfSpeed 31 = .ok (.istore 4, 2) := by decide +kernel
theorem dX5_tellIfSpeed_33 : decode cX5_tellIfSpeed 33 = .ok (.iload_n 3, 1) := by decide +kernel
theorem dX5_tellIfSpeed_34 : decode cX5_tellIfSpeed 34 = .ok (.lookupswitch 40 #[(0, 26), (1, 29)], 26) := by decide +kernel
theorem dX5_tellIfSpeed_60 : decode cX5_tellIfSpeed 60 = .ok (.iload 4, 2) := by decide +kernel
theorem dX5_tellIfSpeed_62 : decode cX5_tellIfSpeed 62 = .ok (.ireturn, 1) := by decide +kernel
theorem dX5_tellIfSpeed_63 : decode cX5_tellIfSpeed 63 = .ok (.aload_n 0, 1) := by decide +kernel
theorem dX5_tellIfSpeed_64 : decode cX5_tellIfSpeed 64 = .ok (.getfield 16, 3) := by decide +kernel
theorem dX5_tellIfSpeed_67 : decode cX5_tellIfSpeed 67 = .ok (.iload_n 1, 1) := by decide +kernel
theorem dX5_tellIfSpeed_68 : decode cX5_tellIfSpeed 68 = .ok (.iload 4, 2) := by decide +kernel
theorem dX5_tellIfSpeed_70 : decode cX5_tellIfSpeed 70 = .ok (.invokevirtual 293, 3) := by decide +kernel
theorem dX5_tellIfSpeed_73 : decode cX5_tellIfSpeed 73 = .ok (.ireturn, 1) := by decide +kernel
theorem dX5_tellIfSpeed_74 : decode cX5_tellIfSpeed 74 = .ok (.aload_n 0, 1) := by decide +kernel
theorem dX5_tellIfSpeed_75 : decode cX5_tellIfSpeed 75 = .ok (.getfield 16, 3) := by decide +kernel
theorem dX5_tellIfSpeed_78 : decode cX5_tellIfSpeed 78 = .ok (.iload 4, 2) := by decide +kernel
theorem dX5_tellIfSpeed_80 : decode cX5_tellIfSpeed 80 = .ok (.invokevirtual 321, 3) := by decide +kernel
theorem dX5_tellIfSpeed_83 : decode cX5_tellIfSpeed 83 = .ok (.ireturn, 1) := by decide +kernel
set_option maxRecDepth 100000 in
theorem ggX5_ticksUntilClosing_X0_copyFrom : GoodIn wsX5_ticksUntilClosing wsX0_copyFrom := goodIn_r _ [9, 10, 11, 12, 13, 14, 15, 16, 17, 18, 19, 20, 21, 22, 23, 24, 25, 26, 27, 28, 29, 30, 31, 32, 33, 34, 35, 36, 37, 131, 132, 133, 134, 135, 136, 137, 138, 139, 140, 141, 142, 143, 144, 145, 146, 147, 148] rfl (by decide +kernel)
set_option maxRecDepth 100000 in
theorem gX5_ticksUntilClosing_X0_copyFrom : GoodIn wsX5_ticksUntilClosing (wsV RX5 180 RX0 yX0_copyFrom wsX0_copyFrom) := goodIn_app (goodIn_r _ [5, 6, 7, 8] rfl (by decide +kernel)) ggX5_ticksUntilClosing_X0_copyFrom
set_option maxRecDepth 100000 in
theorem ggX5_ticksUntilClosing_X0_whyNotClosed : GoodIn wsX5_ticksUntilClosing wsX0_whyNotClosed := goodIn_r _ [41, 10, 42, 43, 44, 45, 46, 47, 48, 12, 49, 50, 51, 8, 52, 53, 54, 55, 56, 57, 58, 59, 60, 11, 61, 62, 63, 64, 65, 66, 67, 68, 69, 18, 70, 24, 21, 22, 20, 71, 72, 73, 74, 25, 75, 76, 77, 131, 132, 133, 134, 135, 136, 137, 138, 139, 140, 141, 142, 143, 144, 145, 146, 147, 148] rfl (by decide +kernel)
set_option maxRecDepth 100000 in
theorem gX5_ticksUntilClosing_X0_whyNotClosed : GoodIn wsX5_ticksUntilClosing (wsV RX5 96 RX0 yX0_whyNotClosed wsX0_whyNotClosed) := goodIn_app (goodIn_r _ [38, 39, 40, 8] rfl (by decide +kernel)) ggX5_ticksUntilClosing_X0_whyNotClosed
set_option maxRecDepth 100000 in
theorem ggX5_ticksUntilClosing_X0_tick : GoodIn wsX5_ticksUntilClosing wsX0_tick := goodIn_r _ [81, 14, 10, 13, 53, 54, 55, 8, 56, 49, 50, 51, 52, 43, 57, 58, 59, 60, 11, 61, 62, 63, 64, 65, 66, 67, 68, 69, 18, 70, 24, 21, 22, 20, 82, 83, 84, 85, 86, 87, 47, 88, 89, 90, 91, 92, 93, 94, 95, 96, 97, 98, 99, 100, 28, 26, 27, 23, 25, 101, 102, 103, 104, 105, 106, 107, 108, 109, 110, 111, 112, 113, 114, 12, 115, 116, 117, 118, 119, 120, 121, 122, 123, 124, 131, 132, 133, 134, 135, 136, 137, 138, 139, 140, 141, 142, 143, 144, 145, 146, 147, 148] rfl (by decide +kernel)
set_option maxRecDepth 100000 in
theorem gX5_ticksUntilClosing_X0_tick : GoodIn wsX5_ticksUntilClosing (wsV RX5 219 RX0 yX0_tick wsX0_tick) := goodIn_app (goodIn_r _ [78, 79, 80, 8] rfl (by decide +kernel)) ggX5_ticksUntilClosing_X0_tick
theorem dX5_ticksUntilClosing_0 : decode cX5_ticksUntilClosing 0 = .ok (.aload_n 0, 1) := by decide +kernel
theorem dX5_ticksUntilClosing_1 : decode cX5_ticksUntilClosing 1 = .ok (.getfield 10, 3) := by decide +kernel
theorem dX5_ticksUntilClosing_4 : decode cX5_ticksUntilClosing 4 = .ok (.getfield 44, 3) := by decide +kernel
theorem dX5_ticksUntilClosing_7 : decode cX5_ticksUntilClosing 7 = .ok (.iload_n 1, 1) := by decide +kernel
theorem dX5_ticksUntilClosing_8 : decode cX5_ticksUntilClosing 8 = .ok (.aaload, 1) := by decide +kernel
theorem dX5_ticksUntilClosing_9 : decode cX5_ticksUntilClosing 9 = .ok (.getfield 48, 3) := by decide +kernel
theorem dX5_ticksUntilClosing_12 : decode cX5_ticksUntilClosing 12 = .ok (.ifCond .ne 5, 3) := by decide +kernel
theorem dX5_ticksUntilClosing_15 : decode cX5_ticksUntilClosing 15 = .ok (.iconst (-1), 1) := by decide +kernel
theorem dX5_ticksUntilClosing_16 : decode cX5_ticksUntilClosing 16 = .ok (.ireturn, 1) := by decide +kernel
theorem dX5_ticksUntilClosing_17 : decode cX5_ticksUntilClosing 17 = .ok (.aload_n 0, 1) := by decide +kernel
theorem dX5_ticksUntilClosing_18 : decode cX5_ticksUntilClosing 18 = .ok (.getfield 16, 3) := by decide +kernel
theorem dX5_ticksUntilClosing_21 : decode cX5_ticksUntilClosing 21 = .ok (.aload_n 0, 1) := by decide +kernel
theorem dX5_ticksUntilClosing_22 : decode cX5_ticksUntilClosing 22 = .ok (.getfield 10, 3) := by decide +kernel
theorem dX5_ticksUntilClosing_25 : decode cX5_ticksUntilClosing 25 = .ok (.invokevirtual 180, 3) := by decide +kernel
theorem dX5_ticksUntilClosing_28 : decode cX5_ticksUntilClosing 28 = .ok (.iconst 0, 1) := by decide +kernel
theorem dX5_ticksUntilClosing_29 : decode cX5_ticksUntilClosing 29 = .ok (.istore_n 2, 1) := by decide +kernel
theorem dX5_ticksUntilClosing_30 : decode cX5_ticksUntilClosing 30 = .ok (.iload_n 2, 1) := by decide +kernel
theorem dX5_ticksUntilClosing_31 : decode cX5_ticksUntilClosing 31 = .ok (.sipush 500, 3) := by decide +kernel
theorem dX5_ticksUntilClosing_34 : decode cX5_ticksUntilClosing 34 = .ok (.if_icmp .gt 30, 3) := by decide +kernel
theorem dX5_ticksUntilClosing_37 : decode cX5_ticksUntilClosing 37 = .ok (.aload_n 0, 1) := by decide +kernel
theorem dX5_ticksUntilClosing_38 : decode cX5_ticksUntilClosing 38 = .ok (.getfield 16, 3) := by decide +kernel
theorem dX5_ticksUntilClosing_41 : decode cX5_ticksUntilClosing 41 = .ok (.iload_n 1, 1) := by decide +kernel
theorem dX5_ticksUntilClosing_42 : decode cX5_ticksUntilClosing 42 = .ok (.invokevirtual 96, 3) := by decide +kernel
theorem dX5_ticksUntilClosing_45 : decode cX5_ticksUntilClosing 45 = .ok (.ifCond .ne 5, 3) := by decide +kernel
theorem dX5_ticksUntilClosing_48 : decode cX5_ticksUntilClosing 48 = .ok (.iload_n 2, 1) := by decide +kernel
theorem dX5_ticksUntilClosing_49 : decode cX5_ticksUntilClosing 49 = .ok (.ireturn, 1) := by decide +kernel
theorem dX5_ticksUntilClosing_50 : decode cX5_ticksUntilClosing 50 = .ok (.aload_n 0, 1) := by decide +kernel
theorem dX5_ticksUntilClosing_51 : decode cX5_ticksUntilClosing 51 = .ok (.getfield 16, 3) := by decide +kernel
theorem dX5_ticksUntilClosing_54 : decode cX5_ticksUntilClosing 54 = .ok (.invokevirtual 219, 3) := by decide +kernel
theorem dX5_ticksUntilClosing_57 : decode cX5_ticksUntilClosing 57 = .ok (.pop, 1) := by decide +kernel
theorem dX5_ticksUntilClosing_58 : decode cX5_ticksUntilClosing 58 = .ok (.iinc 2 1, 3) := by decide +kernel
theorem dX5_ticksUntilClosing_61 : decode cX5_ticksUntilClosing 61 = .ok (.goto (-31), 3) := by decide +kernel
theorem dX5_ticksUntilClosing_64 : decode cX5_ticksUntilClosing 64 = .ok (.iconst (-1), 1) := by decide +kernel
theorem dX5_ticksUntilClosing_65 : decode cX5_ticksUntilClosing 65 = .ok (.ireturn, 1) := by decide +kernel
set_option maxRecDepth 100000 in
theorem ggX5_speedForFairShare_X0_ratingsClosed : GoodIn wsX5_speedForFairShare wsX0_ratingsClosed := goodIn_r _ [15, 16, 17, 18, 90, 91, 92, 93, 94, 95, 96, 97, 98, 99, 100, 101, 102, 103, 104] rfl (by decide +kernel)
set_option maxRecDepth 100000 in
theorem gX5_speedForFairShare_X0_ratingsClosed : GoodIn wsX5_speedForFairShare (wsV RX5 222 RX0 yX0_ratingsClosed wsX0_ratingsClosed) := goodIn_app (goodIn_r _ [11, 12, 13, 14] rfl (by decide +kernel)) ggX5_speedForFairShare_X0_ratingsClosed
set_option maxRecDepth 100000 in
theorem ggX5_speedForFairShare_X0_demand : GoodIn wsX5_speedForFairShare wsX0_demand := goodIn_r _ [22, 23, 24, 25, 26, 27, 28, 14, 29, 16, 17, 90, 91, 92, 93, 94, 105, 106, 107, 95, 96, 97, 98, 99, 100, 101, 102, 103, 104] rfl (by decide +kernel)
set_option maxRecDepth 100000 in
theorem gX5_speedForFairShare_X0_demand : GoodIn wsX5_speedForFairShare (wsV RX5 225 RX0 yX0_demand wsX0_demand) := goodIn_app (goodIn_r _ [19, 20, 21, 14] rfl (by decide +kernel)) ggX5_speedForFairShare_X0_demand
set_option maxRecDepth 100000 in
theorem ggX5_speedForFairShare_X0_copyFrom : GoodIn wsX5_speedForFairShare wsX0_copyFrom := goodIn_r _ [33, 16, 23, 34, 35, 36, 37, 38, 39, 40, 41, 42, 43, 44, 45, 46, 47, 48, 49, 50, 51, 52, 53, 54, 55, 56, 57, 58, 59, 90, 91, 92, 93, 94, 95, 96, 97, 98, 99, 100, 101, 102, 103, 104, 105, 106, 107] rfl (by decide +kernel)
set_option maxRecDepth 100000 in
theorem gX5_speedForFairShare_X0_copyFrom : GoodIn wsX5_speedForFairShare (wsV RX5 180 RX0 yX0_copyFrom wsX0_copyFrom) := goodIn_app (goodIn_r _ [30, 31, 32, 14] rfl (by decide +kernel)) ggX5_speedForFairShare_X0_copyFrom
set_option maxRecDepth 100000 in
theorem ggX5_speedForFairShare_X0_frequency : GoodIn wsX5_speedForFairShare wsX0_frequency := goodIn_r _ [63, 26, 27, 28, 14, 29, 16, 17, 64, 20, 21, 22, 23, 24, 25, 65, 66, 67, 68, 69, 70, 71, 40, 72, 46, 43, 44, 42, 90, 91, 92, 93, 94, 95, 96, 97, 98, 99, 100, 101, 102, 103, 104, 105, 106, 107] rfl (by decide +kernel)
set_option maxRecDepth 100000 in
theorem gX5_speedForFairShare_X0_frequency : GoodIn wsX5_speedForFairShare (wsV RX5 105 RX0 yX0_frequency wsX0_frequency) := goodIn_app (goodIn_r _ [60, 61, 62, 14] rfl (by decide +kernel)) ggX5_speedForFairShare_X0_frequency
set_option maxRecDepth 100000 in
theorem ggX5_speedForFairShare_X0_power : GoodIn wsX5_speedForFairShare wsX0_power := goodIn_r _ [76, 16, 77, 78, 9, 79, 69, 70, 71, 40, 72, 46, 43, 44, 42, 80, 81, 82, 14, 83, 17, 65, 66, 67, 68, 64, 20, 21, 22, 23, 24, 25, 26, 27, 28, 29, 90, 91, 92, 93, 94, 95, 96, 97, 98, 99, 100, 101, 102, 103, 104, 105, 106, 107] rfl (by decide +kernel)
set_option maxRecDepth 100000 in
theorem gX5_speedForFairShare_X0_power : GoodIn wsX5_speedForFairShare (wsV RX5 293 RX0 yX0_power wsX0_power) := goodIn_app (goodIn_r _ [73, 74, 75, 14] rfl (by decide +kernel)) ggX5_speedForFairShare_X0_power
theorem dX5_speedForFairShare_0 : decode cX5_speedForFairShare 0 = .ok (.aload_n 0, 1) := by decide +kernel
theorem dX5_speedForFairShare_1 : decode cX5_speedForFairShare 1 = .ok (.getfield 10, 3) := by decide +kernel
theorem dX5_speedForFairShare_4 : decode cX5_speedForFairShare 4 = .ok (.invokevirtual 222, 3) := by decide +kernel
theorem dX5_speedForFairShare_7 : decode cX5_speedForFairShare 7 = .ok (.istore_n 2, 1) := by decide +kernel
theorem dX5_speedForFairShare_8 : decode cX5_speedForFairShare 8 = .ok (.aload_n 0, 1) := by decide +kernel
theorem dX5_speedForFairShare_9 : decode cX5_speedForFairShare 9 = .ok (.getfield 10, 3) := by decide +kernel
theorem dX5_speedForFairShare_12 : decode cX5_speedForFairShare 12 = .ok (.getfield 44, 3) := by decide +kernel
theorem dX5_speedForFairShare_15 : decode cX5_speedForFairShare 15 = .ok (.iload_n 1, 1) := by decide +kernel
theorem dX5_speedForFairShare_16 : decode cX5_speedForFairShare 16 = .ok (.aaload, 1) := by decide +kernel
theorem dX5_speedForFairShare_17 : decode cX5_speedForFairShare 17 = .ok (.getfield 108, 3) := by decide +kernel
theorem dX5_speedForFairShare_20 : decode cX5_speedForFairShare 20 = .ok (.ifCond .eq 7, 3) := by decide +kernel
theorem dX5_speedForFairShare_23 : decode cX5_speedForFairShare 23 = .ok (.iload_n 2, 1) := by decide +kernel
theorem dX5_speedForFairShare_24 : decode cX5_speedForFairShare 24 = .ok (.ifCond .ne 5, 3) := by decide +kernel
theorem dX5_speedForFairShare_27 : decode cX5_speedForFairShare 27 = .ok (.iconst (-1), 1) := by decide +kernel
theorem dX5_speedForFairShare_28 : decode cX5_speedForFairShare 28 = .ok (.ireturn, 1) := by decide +kernel
theorem dX5_speedForFairShare_29 : decode cX5_speedForFairShare 29 = .ok (.aload_n 0, 1) := by decide +kernel
theorem dX5_speedForFairShare_30 : decode cX5_speedForFairShare 30 = .ok (.getfield 10, 3) := by decide +kernel
theorem dX5_speedForFairShare_33 : decode cX5_speedForFairShare 33 = .ok (.invokevirtual 225, 3) := by decide +kernel
theorem dX5_speedForFairShare_36 : decode cX5_speedForFairShare 36 = .ok (.aload_n 0, 1) := by decide +kernel
theorem dX5_speedForFairShare_37 : decode cX5_speedForFairShare 37 = .ok (.getfield 10, 3) := by decide +kernel
theorem dX5_speedForFairShare_40 : decode cX5_speedForFairShare 40 = .ok (.getfield 44, 3) := by decide +kernel
theorem dX5_speedForFairShare_43 : decode cX5_speedForFairShare 43 = .ok (.iload_n 1, 1) := by decide +kernel
theorem dX5_speedForFairShare_44 : decode cX5_speedForFairShare 44 = .ok (.aaload, 1) := by decide +kernel
theorem dX5_speedForFairShare_45 : decode cX5_speedForFairShare 45 = .ok (.getfield 65, 3) := by decide +kernel
theorem dX5_speedForFairShare_48 : decode cX5_speedForFairShare 48 = .ok (.imul, 1) := by decide +kernel
theorem dX5_speedForFairShare_49 : decode cX5_speedForFairShare 49 = .ok (.iload_n 2, 1) := by decide +kernel
theorem dX5_speedForFairShare_50 : decode cX5_speedForFairShare 50 = .ok (.idiv, 1) := by decide +kernel
theorem dX5_speedForFairShare_51 : decode cX5_speedForFairShare 51 = .ok (.istore_n 3, 1) := by decide +kernel
theorem dX5_speedForFairShare_52 : decode cX5_speedForFairShare 52 = .ok (.iconst (-1), 1) := by decide +kernel
theorem dX5_speedForFairShare_53 : decode cX5_speedForFairShare 53 = .ok (.istore 4, 2) := by decide +kernel
theorem dX5_speedForFairShare_55 : decode cX5_speedForFairShare 55 = .ok (.iconst 0, 1) := by decide +kernel
theorem dX5_speedForFairShare_56 : decode cX5_speedForFairShare 56 = .ok (.istore 5, 2) := by decide +kernel
theorem dX5_speedForFairShare_58 : decode cX5_speedForFairShare 58 = .ok (.aload_n 0, 1) := by decide +kernel
theorem dX5_speedForFairShare_59 : decode cX5_speedForFairShare 59 = .ok (.getfield 16, 3) := by decide +kernel
theorem dX5_speedForFairShare_62 : decode cX5_speedForFairShare 62 = .ok (.aload_n 0, 1) := by decide +kernel
theorem dX5_speedForFairShare_63 : decode cX5_speedForFairShare 63 = .ok (.getfield 10, 3) := by decide +kernel
theorem dX5_speedForFairShare_66 : decode cX5_speedForFairShare 66 = .ok (.invokevirtual 180, 3) := by decide +kernel
theorem dX5_speedForFairShare_69 : decode cX5_speedForFairShare 69 = .ok (.sipush 4700, 3) := by decide +kernel
theorem dX5_speedForFairShare_72 : decode cX5_speedForFairShare 72 = .ok (.istore 6, 2) := by decide +kernel
theorem dX5_speedForFairShare_74 : decode cX5_speedForFairShare 74 = .ok (.iload 6, 2) := by decide +kernel
theorem dX5_speedForFairShare_76 : decode cX5_speedForFairShare 76 = .ok (.sipush 5300, 3) := by decide +kernel
theorem dX5_speedForFairShare_79 : decode cX5_speedForFairShare 79 = .ok (.if_icmp .gt 66, 3) := by decide +kernel
theorem dX5_speedForFairShare_82 : decode cX5_speedForFairShare 82 = .ok (.aload_n 0, 1) := by decide +kernel
theorem dX5_speedForFairShare_83 : decode cX5_speedForFairShare 83 = .ok (.getfield 16, 3) := by decide +kernel
theorem dX5_speedForFairShare_86 : decode cX5_speedForFairShare 86 = .ok (.getfield 44, 3) := by decide +kernel
theorem dX5_speedForFairShare_89 : decode cX5_speedForFairShare 89 = .ok (.iload_n 1, 1) := by decide +kernel
theorem dX5_speedForFairShare_90 : decode cX5_speedForFairShare 90 = .ok (.aaload, 1) := by decide +kernel
theorem dX5_speedForFairShare_91 : decode cX5_speedForFairShare 91 = .ok (.iload 6, 2) := by decide +kernel
theorem dX5_speedForFairShare_93 : decode cX5_speedForFairShare 93 = .ok (.putfield 72, 3) := by decide +kernel
theorem dX5_speedForFairShare_96 : decode cX5_speedForFairShare 96 = .ok (.aload_n 0, 1) := by decide +kernel
theorem dX5_speedForFairShare_97 : decode cX5_speedForFairShare 97 = .ok (.getfield 16, 3) := by decide +kernel
theorem dX5_speedForFairShare_100 : decode cX5_speedForFairShare 100 = .ok (.iload_n 1, 1) := by decide +kernel
theorem dX5_speedForFairShare_101 : decode cX5_speedForFairShare 101 = .ok (.aload_n 0, 1) := by decide +kernel
theorem dX5_speedForFairShare_102 : decode cX5_speedForFairShare 102 = .ok (.getfield 16, 3) := by decide +kernel
theorem dX5_speedForFairShare_105 : decode cX5_speedForFairShare 105 = .ok (.invokevirtual 105, 3) := by decide +kernel
theorem dX5_speedForFairShare_108 : decode cX5_speedForFairShare 108 = .ok (.invokevirtual 293, 3) := by decide +kernel
theorem dX5_speedForFairShare_111 : decode cX5_speedForFairShare 111 = .ok (.iload_n 3, 1) := by decide +kernel
theorem dX5_speedForFairShare_112 : decode cX5_speedForFairShare 112 = .ok (.isub, 1) := by decide +kernel
theorem dX5_speedForFairShare_113 : decode cX5_speedForFairShare 113 = .ok (.invokestatic 331, 3) := by decide +kernel
theorem dX5_speedForFairShare_116 : decode cX5_speedForFairShare 116 = .ok (.istore 7, 2) := by decide +kernel
theorem dX5_speedForFairShare_118 : decode cX5_speedForFairShare 118 = .ok (.iload 4, 2) := by decide +kernel
theorem dX5_speedForFairShare_120 : decode cX5_speedForFairShare 120 = .ok (.iconst (-1), 1) := by decide +kernel
theorem dX5_speedForFairShare_121 : decode cX5_speedForFairShare 121 = .ok (.if_icmp .eq 10, 3) := by decide +kernel
theorem dX5_speedForFairShare_124 : decode cX5_speedForFairShare 124 = .ok (.iload 7, 2) := by decide +kernel
theorem dX5_speedForFairShare_126 : decode cX5_speedForFairShare 126 = .ok (.iload 5, 2) := by decide +kernel
theorem dX5_speedForFairShare_128 : decode cX5_speedForFairShare 128 = .ok (.if_icmp .ge 11, 3) := by decide +kernel
theorem dX5_speedForFairShare_131 : decode cX5_speedForFairShare 131 = .ok (.iload 7, 2) := by decide +kernel
theorem dX5_speedForFairShare_133 : decode cX5_speedForFairShare 133 = .ok (.istore 5, 2) := by decide +kernel
theorem dX5_speedForFairShare_135 : decode cX5_speedForFairShare 135 = .ok (.iload 6, 2) := by decide +kernel
theorem dX5_speedForFairShare_137 : decode cX5_speedForFairShare 137 = .ok (.istore 4, 2) := by decide +kernel
theorem dX5_speedForFairShare_139 : decode cX5_speedForFairShare 139 = .ok (.iinc 6 1, 3) := by decide +kernel
theorem dX5_speedForFairShare_142 : decode cX5_speedForFairShare 142 = .ok (.goto (-68), 3) := by decide +kernel
theorem dX5_speedForFairShare_145 : decode cX5_speedForFairShare 145 = .ok (.iload 4, 2) := by decide +kernel
theorem dX5_speedForFairShare_147 : decode cX5_speedForFairShare 147 = .ok (.ireturn, 1) := by decide +kernel
