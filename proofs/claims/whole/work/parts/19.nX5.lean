set_option maxRecDepth 100000 in
theorem ggX5_init_X0_init : GoodIn wsX5_init wsX0_init := goodIn_r _ [20, 21, 2, 3, 22, 23, 24, 25, 26, 27, 28, 29, 30, 31, 32, 33, 34, 35, 36, 37, 38, 39, 40, 41, 42, 54, 55, 56, 57, 58, 69, 70, 71, 72, 73, 74, 75, 76, 77, 78, 79, 80, 81] rfl (by decide +kernel)
set_option maxRecDepth 100000 in
theorem gX5_init_X0_init : GoodIn wsX5_init (wsX0_init) := ggX5_init_X0_init
set_option maxRecDepth 100000 in
theorem ggX5_init_X3_init : GoodIn wsX5_init wsX3_init := goodIn_r _ [45, 46, 2, 3, 47, 48, 5, 6, 49, 19, 20, 21, 22, 23, 24, 25, 26, 27, 28, 29, 30, 31, 32, 33, 34, 35, 36, 37, 38, 39, 40, 41, 42, 65, 66, 54, 55, 56, 57, 58, 69, 70, 71, 72, 73, 74, 75, 76, 77, 78, 79, 80, 81] rfl (by decide +kernel)
set_option maxRecDepth 100000 in
theorem gX5_init_X3_init : GoodIn wsX5_init (wsX3_init) := ggX5_init_X3_init
set_option maxRecDepth 100000 in
theorem ggX5_init_X4_init : GoodIn wsX5_init wsX4_init := goodIn_r _ [51, 52, 2, 3, 26, 53, 67, 68] rfl (by decide +kernel)
set_option maxRecDepth 100000 in
theorem gX5_init_X4_init_n31 : GoodIn wsX5_init (wsX4_init) := ggX5_init_X4_init
theorem dX5_init_0 : decode cX5_init 0 = .ok (.aload_n 0, 1) := by decide +kernel
theorem dX5_init_1 : decode cX5_init 1 = .ok (.invokespecial 1, 3) := by decide +kernel
theorem dX5_init_4 : decode cX5_init 4 = .ok (.aload_n 0, 1) := by decide +kernel
theorem dX5_init_5 : decode cX5_init 5 = .ok (.new 7, 3) := by decide +kernel
theorem dX5_init_8 : decode cX5_init 8 = .ok (.dup, 1) := by decide +kernel
theorem dX5_init_9 : decode cX5_init 9 = .ok (.invokespecial 9, 3) := by decide +kernel
theorem dX5_init_12 : decode cX5_init 12 = .ok (.putfield 10, 3) := by decide +kernel
theorem dX5_init_15 : decode cX5_init 15 = .ok (.aload_n 0, 1) := by decide +kernel
theorem dX5_init_16 : decode cX5_init 16 = .ok (.new 7, 3) := by decide +kernel
theorem dX5_init_19 : decode cX5_init 19 = .ok (.dup, 1) := by decide +kernel
theorem dX5_init_20 : decode cX5_init 20 = .ok (.invokespecial 9, 3) := by decide +kernel
theorem dX5_init_23 : decode cX5_init 23 = .ok (.putfield 16, 3) := by decide +kernel
theorem dX5_init_26 : decode cX5_init 26 = .ok (.aload_n 0, 1) := by decide +kernel
theorem dX5_init_27 : decode cX5_init 27 = .ok (.new 7, 3) := by decide +kernel
theorem dX5_init_30 : decode cX5_init 30 = .ok (.dup, 1) := by decide +kernel
theorem dX5_init_31 : decode cX5_init 31 = .ok (.invokespecial 9, 3) := by decide +kernel
theorem dX5_init_34 : decode cX5_init 34 = .ok (.putfield 19, 3) := by decide +kernel
theorem dX5_init_37 : decode cX5_init 37 = .ok (.aload_n 0, 1) := by decide +kernel
theorem dX5_init_38 : decode cX5_init 38 = .ok (.new 22, 3) := by decide +kernel
theorem dX5_init_41 : decode cX5_init 41 = .ok (.dup, 1) := by decide +kernel
theorem dX5_init_42 : decode cX5_init 42 = .ok (.invokespecial 24, 3) := by decide +kernel
theorem dX5_init_45 : decode cX5_init 45 = .ok (.putfield 25, 3) := by decide +kernel
theorem dX5_init_48 : decode cX5_init 48 = .ok (.aload_n 0, 1) := by decide +kernel
theorem dX5_init_49 : decode cX5_init 49 = .ok (.new 29, 3) := by decide +kernel
theorem dX5_init_52 : decode cX5_init 52 = .ok (.dup, 1) := by decide +kernel
theorem dX5_init_53 : decode cX5_init 53 = .ok (.invokespecial 31, 3) := by decide +kernel
theorem dX5_init_56 : decode cX5_init 56 = .ok (.putfield 32, 3) := by decide +kernel
theorem dX5_init_59 : decode cX5_init 59 = .ok (.return_, 1) := by decide +kernel
set_option maxRecDepth 100000 in
theorem ggX5_build_X5_needSet : GoodIn wsX5_build wsX5_needSet := goodIn_ca (goodIn_r _ [12, 13, 14, 15, 16, 11, 17] rfl (by decide +kernel)) (goodIn_sub (fun _ h => List.mem_cons_of_mem _ (List.mem_append_left _ (List.mem_append_right _ h))) (by decide +kernel))
set_option maxRecDepth 100000 in
theorem gX5_build_X5_needSet : GoodIn wsX5_build (va_wsS RX5 36 yX5_needSet wsX5_needSet) := goodIn_app (goodIn_r _ [9, 10, 11] rfl (by decide +kernel)) ggX5_build_X5_needSet
set_option maxRecDepth 100000 in
theorem ggX5_build_X5_needRange : GoodIn wsX5_build wsX5_needRange := goodIn_ca (goodIn_r _ [20, 21, 22] rfl (by decide +kernel)) (goodIn_sub (fun _ h => List.mem_cons_of_mem _ (List.mem_append_right _ h)) (by decide +kernel))
set_option maxRecDepth 100000 in
theorem gX5_build_X5_needRange : GoodIn wsX5_build (va_wsS RX5 40 yX5_needRange wsX5_needRange) := goodIn_app (goodIn_r _ [18, 19, 11] rfl (by decide +kernel)) ggX5_build_X5_needRange
set_option maxRecDepth 100000 in
theorem ggX5_build_X3_save : GoodIn wsX5_build wsX3_save := goodIn_r _ [27, 28, 29, 30, 31, 32, 26, 33, 34, 35, 36, 37, 38, 39, 40, 41, 42, 43, 44, 45, 46, 47, 48, 49, 50, 51, 52, 53, 54, 55, 56, 57, 58, 59, 60, 61, 62, 63, 64, 65, 66, 88, 89, 73, 74, 75, 76, 77, 78, 79, 80, 81, 82, 83, 84, 85, 86, 87, 90, 91, 92] rfl (by decide +kernel)
set_option maxRecDepth 100000 in
theorem gX5_build_X3_save : GoodIn wsX5_build (wsV RX5 61 RX3 yX3_save wsX3_save) := goodIn_app (goodIn_r _ [23, 24, 25, 26] rfl (by decide +kernel)) ggX5_build_X3_save
theorem dX5_build_0 : decode cX5_build 0 = .ok (.iload_n 1, 1) := by decide +kernel
theorem dX5_build_1 : decode cX5_build 1 = .ok (.invokestatic 36, 3) := by decide +kernel
theorem dX5_build_4 : decode cX5_build 4 = .ok (.iload_n 2, 1) := by decide +kernel
theorem dX5_build_5 : decode cX5_build 5 = .ok (.bipush 100, 2) := by decide +kernel
theorem dX5_build_7 : decode cX5_build 7 = .ok (.sipush 500, 3) := by decide +kernel
theorem dX5_build_10 : decode cX5_build 10 = .ok (.invokestatic 40, 3) := by decide +kernel
theorem dX5_build_13 : decode cX5_build 13 = .ok (.iload_n 3, 1) := by decide +kernel
theorem dX5_build_14 : decode cX5_build 14 = .ok (.bipush 100, 2) := by decide +kernel
theorem dX5_build_16 : decode cX5_build 16 = .ok (.sipush 400, 3) := by decide +kernel
theorem dX5_build_19 : decode cX5_build 19 = .ok (.invokestatic 40, 3) := by decide +kernel
theorem dX5_build_22 : decode cX5_build 22 = .ok (.aload_n 0, 1) := by decide +kernel
theorem dX5_build_23 : decode cX5_build 23 = .ok (.getfield 10, 3) := by decide +kernel
theorem dX5_build_26 : decode cX5_build 26 = .ok (.getfield 44, 3) := by decide +kernel
theorem dX5_build_29 : decode cX5_build 29 = .ok (.iload_n 1, 1) := by decide +kernel
theorem dX5_build_30 : decode cX5_build 30 = .ok (.aaload, 1) := by decide +kernel
theorem dX5_build_31 : decode cX5_build 31 = .ok (.astore 4, 2) := by decide +kernel
theorem dX5_build_33 : decode cX5_build 33 = .ok (.aload 4, 2) := by decide +kernel
theorem dX5_build_35 : decode cX5_build 35 = .ok (.getfield 48, 3) := by decide +kernel
theorem dX5_build_38 : decode cX5_build 38 = .ok (.ifCond .eq 13, 3) := by decide +kernel
theorem dX5_build_41 : decode cX5_build 41 = .ok (.new 54, 3) := by decide +kernel
theorem dX5_build_44 : decode cX5_build 44 = .ok (.dup, 1) := by decide +kernel
theorem dX5_build_45 : decode cX5_build 45 = .ok (.ldc 56, 2) := by decide +kernel
theorem dX5_build_47 : decode cX5_build 47 = .ok (.invokespecial 58, 3) := by decide +kernel
theorem dX5_build_50 : decode cX5_build 50 = .ok (.athrow, 1) := by decide +kernel
theorem dX5_build_51 : decode cX5_build 51 = .ok (.aload_n 0, 1) := by decide +kernel
theorem dX5_build_52 : decode cX5_build 52 = .ok (.getfield 25, 3) := by decide +kernel
theorem dX5_build_55 : decode cX5_build 55 = .ok (.aload_n 0, 1) := by decide +kernel
theorem dX5_build_56 : decode cX5_build 56 = .ok (.getfield 10, 3) := by decide +kernel
theorem dX5_build_59 : decode cX5_build 59 = .ok (.invokevirtual 61, 3) := by decide +kernel
theorem dX5_build_62 : decode cX5_build 62 = .ok (.aload 4, 2) := by decide +kernel
theorem dX5_build_64 : decode cX5_build 64 = .ok (.getfield 65, 3) := by decide +kernel
theorem dX5_build_67 : decode cX5_build 67 = .ok (.istore 5, 2) := by decide +kernel
theorem dX5_build_69 : decode cX5_build 69 = .ok (.aload 4, 2) := by decide +kernel
theorem dX5_build_71 : decode cX5_build 71 = .ok (.iload_n 2, 1) := by decide +kernel
theorem dX5_build_72 : decode cX5_build 72 = .ok (.putfield 65, 3) := by decide +kernel
theorem dX5_build_75 : decode cX5_build 75 = .ok (.aload 4, 2) := by decide +kernel
theorem dX5_build_77 : decode cX5_build 77 = .ok (.iload_n 3, 1) := by decide +kernel
theorem dX5_build_78 : decode cX5_build 78 = .ok (.putfield 69, 3) := by decide +kernel
theorem dX5_build_81 : decode cX5_build 81 = .ok (.iload 5, 2) := by decide +kernel
theorem dX5_build_83 : decode cX5_build 83 = .ok (.ireturn, 1) := by decide +kernel
set_option maxRecDepth 100000 in
theorem ggX5_speed_X5_needSet : GoodIn wsX5_speed wsX5_needSet := goodIn_ca (goodIn_r _ [8, 9, 10, 11, 12, 7, 13] rfl (by decide +kernel)) (goodIn_sub (fun _ h => List.mem_cons_of_mem _ (List.mem_append_left _ (List.mem_append_right _ h))) (by decide +kernel))
set_option maxRecDepth 100000 in
theorem gX5_speed_X5_needSet : GoodIn wsX5_speed (va_wsS RX5 36 yX5_needSet wsX5_needSet) := goodIn_app (goodIn_r _ [5, 6, 7] rfl (by decide +kernel)) ggX5_speed_X5_needSet
set_option maxRecDepth 100000 in
theorem ggX5_speed_X5_needRange : GoodIn wsX5_speed wsX5_needRange := goodIn_ca (goodIn_r _ [16, 17, 18] rfl (by decide +kernel)) (goodIn_sub (fun _ h => List.mem_cons_of_mem _ (List.mem_append_right _ h)) (by decide +kernel))
set_option maxRecDepth 100000 in
theorem gX5_speed_X5_needRange : GoodIn wsX5_speed (va_wsS RX5 40 yX5_needRange wsX5_needRange) := goodIn_app (goodIn_r _ [14, 15, 7] rfl (by decide +kernel)) ggX5_speed_X5_needRange
set_option maxRecDepth 100000 in
theorem ggX5_speed_X3_save : GoodIn wsX5_speed wsX3_save := goodIn_r _ [23, 24, 25, 26, 27, 28, 22, 29, 30, 31, 32, 33, 34, 35, 36, 37, 38, 39, 40, 41, 42, 43, 44, 45, 46, 47, 48, 49, 50, 51, 52, 53, 54, 55, 56, 57, 58, 59, 60, 61, 62, 84, 85, 69, 70, 71, 72, 73, 74, 75, 76, 77, 78, 79, 80, 81, 82, 83, 86, 87, 88] rfl (by decide +kernel)
set_option maxRecDepth 100000 in
theorem gX5_speed_X3_save : GoodIn wsX5_speed (wsV RX5 61 RX3 yX3_save wsX3_save) := goodIn_app (goodIn_r _ [19, 20, 21, 22] rfl (by decide +kernel)) ggX5_speed_X3_save
theorem dX5_speed_0 : decode cX5_speed 0 = .ok (.iload_n 1, 1) := by decide +kernel
theorem dX5_speed_1 : decode cX5_speed 1 = .ok (.invokestatic 36, 3) := by decide +kernel
theorem dX5_speed_4 : decode cX5_speed 4 = .ok (.iload_n 2, 1) := by decide +kernel
theorem dX5_speed_5 : decode cX5_speed 5 = .ok (.sipush 4700, 3) := by decide +kernel
theorem dX5_speed_8 : decode cX5_speed 8 = .ok (.sipush 5300, 3) := by decide +kernel
theorem dX5_speed_11 : decode cX5_speed 11 = .ok (.invokestatic 40, 3) := by decide +kernel
theorem dX5_speed_14 : decode cX5_speed 14 = .ok (.aload_n 0, 1) := by decide +kernel
theorem dX5_speed_15 : decode cX5_speed 15 = .ok (.getfield 25, 3) := by decide +kernel
theorem dX5_speed_18 : decode cX5_speed 18 = .ok (.aload_n 0, 1) := by decide +kernel
theorem dX5_speed_19 : decode cX5_speed 19 = .ok (.getfield 10, 3) := by decide +kernel
theorem dX5_speed_22 : decode cX5_speed 22 = .ok (.invokevirtual 61, 3) := by decide +kernel
theorem dX5_speed_25 : decode cX5_speed 25 = .ok (.aload_n 0, 1) := by decide +kernel
theorem dX5_speed_26 : decode cX5_speed 26 = .ok (.getfield 10, 3) := by decide +kernel
theorem dX5_speed_29 : decode cX5_speed 29 = .ok (.getfield 44, 3) := by decide +kernel
theorem dX5_speed_32 : decode cX5_speed 32 = .ok (.iload_n 1, 1) := by decide +kernel
theorem dX5_speed_33 : decode cX5_speed 33 = .ok (.aaload, 1) := by decide +kernel
theorem dX5_speed_34 : decode cX5_speed 34 = .ok (.getfield 72, 3) := by decide +kernel
theorem dX5_speed_37 : decode cX5_speed 37 = .ok (.istore_n 3, 1) := by decide +kernel
theorem dX5_speed_38 : decode cX5_speed 38 = .ok (.aload_n 0, 1) := by decide +kernel
theorem dX5_speed_39 : decode cX5_speed 39 = .ok (.getfield 10, 3) := by decide +kernel
theorem dX5_speed_42 : decode cX5_speed 42 = .ok (.getfield 44, 3) := by decide +kernel
theorem dX5_speed_45 : decode cX5_speed 45 = .ok (.iload_n 1, 1) := by decide +kernel
theorem dX5_speed_46 : decode cX5_speed 46 = .ok (.aaload, 1) := by decide +kernel
theorem dX5_speed_47 : decode cX5_speed 47 = .ok (.iload_n 2, 1) := by decide +kernel
theorem dX5_speed_48 : decode cX5_speed 48 = .ok (.putfield 72, 3) := by decide +kernel
theorem dX5_speed_51 : decode cX5_speed 51 = .ok (.iload_n 3, 1) := by decide +kernel
theorem dX5_speed_52 : decode cX5_speed 52 = .ok (.ireturn, 1) := by decide +kernel
set_option maxRecDepth 100000 in
theorem ggX5_run_X5_needSet : GoodIn wsX5_run wsX5_needSet := goodIn_ca (goodIn_r _ [9, 10, 11, 12, 13, 8, 14] rfl (by decide +kernel)) (goodIn_sub (fun _ h => List.mem_cons_of_mem _ (List.mem_append_right _ h)) (by decide +kernel))
set_option maxRecDepth 100000 in
theorem gX5_run_X5_needSet : GoodIn wsX5_run (va_wsS RX5 36 yX5_needSet wsX5_needSet) := goodIn_app (goodIn_r _ [6, 7, 8] rfl (by decide +kernel)) ggX5_run_X5_needSet
set_option maxRecDepth 100000 in
theorem ggX5_run_X1_canStart : GoodIn wsX5_run wsX1_canStart := goodIn_r _ [19, 20, 89, 90, 91, 92, 93, 94, 95, 96, 97, 98] rfl (by decide +kernel)
set_option maxRecDepth 100000 in
theorem gX5_run_X1_canStart : GoodIn wsX5_run (wsV RX5 75 RX1 yX1_canStart wsX1_canStart) := goodIn_app (goodIn_r _ [15, 16, 17, 18] rfl (by decide +kernel)) ggX5_run_X1_canStart
set_option maxRecDepth 100000 in
theorem ggX5_run_X3_save : GoodIn wsX5_run wsX3_save := goodIn_r _ [25, 26, 27, 28, 29, 30, 24, 31, 32, 33, 34, 35, 36, 37, 38, 39, 40, 41, 42, 43, 44, 18, 45, 46, 47, 48, 20, 49, 50, 51, 52, 53, 54, 55, 56, 57, 58, 59, 60, 61, 62, 99, 100, 84, 85, 86, 87, 88, 89, 90, 91, 92, 93, 94, 95, 96, 97, 98, 101, 102, 103] rfl (by decide +kernel)
set_option maxRecDepth 100000 in
theorem gX5_run_X3_save : GoodIn wsX5_run (wsV RX5 61 RX3 yX3_save wsX3_save) := goodIn_app (goodIn_r _ [21, 22, 23, 24] rfl (by decide +kernel)) ggX5_run_X3_save
set_option maxRecDepth 100000 in
theorem ggX5_run_X1_start : GoodIn wsX5_run wsX1_start := goodIn_r _ [66, 20, 67, 68, 69, 18, 70, 50, 51, 52, 89, 90, 91, 92, 93, 94, 95, 96, 97, 98] rfl (by decide +kernel)
set_option maxRecDepth 100000 in
theorem gX5_run_X1_start : GoodIn wsX5_run (wsV RX5 81 RX1 yX1_start wsX1_start) := goodIn_app (goodIn_r _ [63, 64, 65, 18] rfl (by decide +kernel)) ggX5_run_X1_start
set_option maxRecDepth 100000 in
theorem ggX5_run_X0_running : GoodIn wsX5_run wsX0_running := goodIn_r _ [74, 37, 75, 76, 8, 77, 84, 85, 86, 87, 88, 89, 90, 91, 92, 93, 94, 95, 96, 97, 98] rfl (by decide +kernel)
set_option maxRecDepth 100000 in
theorem gX5_run_X0_running : GoodIn wsX5_run (wsV RX5 84 RX0 yX0_running wsX0_running) := goodIn_app (goodIn_r _ [71, 72, 73, 35] rfl (by decide +kernel)) ggX5_run_X0_running
theorem dX5_run_0 : decode cX5_run 0 = .ok (.iload_n 1, 1) := by decide +kernel
theorem dX5_run_1 : decode cX5_run 1 = .ok (.invokestatic 36, 3) := by decide +kernel
theorem dX5_run_4 : decode cX5_run 4 = .ok (.aload_n 0, 1) := by decide +kernel
theorem dX5_run_5 : decode cX5_run 5 = .ok (.getfield 10, 3) := by decide +kernel
theorem dX5_run_8 : decode cX5_run 8 = .ok (.getfield 44, 3) := by decide +kernel
theorem dX5_run_11 : decode cX5_run 11 = .ok (.iload_n 1, 1) := by decide +kernel
theorem dX5_run_12 : decode cX5_run 12 = .ok (.aaload, 1) := by decide +kernel
theorem dX5_run_13 : decode cX5_run 13 = .ok (.invokevirtual 75, 3) := by decide +kernel
theorem dX5_run_16 : decode cX5_run 16 = .ok (.ifCond .ne 13, 3) := by decide +kernel
theorem dX5_run_19 : decode cX5_run 19 = .ok (.new 54, 3) := by decide +kernel
theorem dX5_run_22 : decode cX5_run 22 = .ok (.dup, 1) := by decide +kernel
theorem dX5_run_23 : decode cX5_run 23 = .ok (.ldc 79, 2) := by decide +kernel
theorem dX5_run_25 : decode cX5_run 25 = .ok (.invokespecial 58, 3) := by decide +kernel
theorem dX5_run_28 : decode cX5_run 28 = .ok (.athrow, 1) := by decide +kernel
theorem dX5_run_29 : decode cX5_run 29 = .ok (.aload_n 0, 1) := by decide +kernel
theorem dX5_run_30 : decode cX5_run 30 = .ok (.getfield 25, 3) := by decide +kernel
theorem dX5_run_33 : decode cX5_run 33 = .ok (.aload_n 0, 1) := by decide +kernel
theorem dX5_run_34 : decode cX5_run 34 = .ok (.getfield 10, 3) := by decide +kernel
theorem dX5_run_37 : decode cX5_run 37 = .ok (.invokevirtual 61, 3) := by decide +kernel
theorem dX5_run_40 : decode cX5_run 40 = .ok (.aload_n 0, 1) := by decide +kernel
theorem dX5_run_41 : decode cX5_run 41 = .ok (.getfield 10, 3) := by decide +kernel
theorem dX5_run_44 : decode cX5_run 44 = .ok (.getfield 44, 3) := by decide +kernel
theorem dX5_run_47 : decode cX5_run 47 = .ok (.iload_n 1, 1) := by decide +kernel
theorem dX5_run_48 : decode cX5_run 48 = .ok (.aaload, 1) := by decide +kernel
theorem dX5_run_49 : decode cX5_run 49 = .ok (.invokevirtual 81, 3) := by decide +kernel
theorem dX5_run_52 : decode cX5_run 52 = .ok (.aload_n 0, 1) := by decide +kernel
theorem dX5_run_53 : decode cX5_run 53 = .ok (.getfield 10, 3) := by decide +kernel
theorem dX5_run_56 : decode cX5_run 56 = .ok (.invokevirtual 84, 3) := by decide +kernel
theorem dX5_run_59 : decode cX5_run 59 = .ok (.ireturn, 1) := by decide +kernel
set_option maxRecDepth 100000 in
theorem ggX5_halt_X5_needSet : GoodIn wsX5_halt wsX5_needSet := goodIn_ca (goodIn_r _ [9, 10, 11, 12, 13, 8, 14] rfl (by decide +kernel)) (goodIn_sub (fun _ h => List.mem_cons_of_mem _ (List.mem_append_right _ h)) (by decide +kernel))
set_option maxRecDepth 100000 in
theorem gX5_halt_X5_needSet : GoodIn wsX5_halt (va_wsS RX5 36 yX5_needSet wsX5_needSet) := goodIn_app (goodIn_r _ [6, 7, 8] rfl (by decide +kernel)) ggX5_halt_X5_needSet
set_option maxRecDepth 100000 in
theorem ggX5_halt_X1_canStop : GoodIn wsX5_halt wsX1_canStop := goodIn_r _ [19, 20, 21, 89, 90, 91, 92, 93, 94, 95, 96, 97, 98] rfl (by decide +kernel)
set_option maxRecDepth 100000 in
theorem gX5_halt_X1_canStop : GoodIn wsX5_halt (wsV RX5 88 RX1 yX1_canStop wsX1_canStop) := goodIn_app (goodIn_r _ [15, 16, 17, 18] rfl (by decide +kernel)) ggX5_halt_X1_canStop
set_option maxRecDepth 100000 in
theorem ggX5_halt_X3_save : GoodIn wsX5_halt wsX3_save := goodIn_r _ [26, 27, 28, 29, 30, 31, 25, 32, 33, 34, 35, 36, 37, 38, 39, 40, 41, 42, 43, 44, 45, 18, 46, 47, 48, 49, 20, 21, 50, 51, 52, 53, 54, 55, 56, 57, 58, 59, 60, 61, 62, 99, 100, 84, 85, 86, 87, 88, 89, 90, 91, 92, 93, 94, 95, 96, 97, 98, 101, 102, 103] rfl (by decide +kernel)
set_option maxRecDepth 100000 in
theorem gX5_halt_X3_save : GoodIn wsX5_halt (wsV RX5 61 RX3 yX3_save wsX3_save) := goodIn_app (goodIn_r _ [22, 23, 24, 25] rfl (by decide +kernel)) ggX5_halt_X3_save
set_option maxRecDepth 100000 in
theorem ggX5_halt_X1_stop : GoodIn wsX5_halt wsX1_stop := goodIn_r _ [66, 20, 67, 68, 69, 18, 70, 50, 51, 52, 89, 90, 91, 92, 93, 94, 95, 96, 97, 98] rfl (by decide +kernel)
set_option maxRecDepth 100000 in
theorem gX5_halt_X1_stop : GoodIn wsX5_halt (wsV RX5 93 RX1 yX1_stop wsX1_stop) := goodIn_app (goodIn_r _ [63, 64, 65, 18] rfl (by decide +kernel)) ggX5_halt_X1_stop
set_option maxRecDepth 100000 in
theorem ggX5_halt_X0_running : GoodIn wsX5_halt wsX0_running := goodIn_r _ [74, 38, 75, 76, 8, 77, 84, 85, 86, 87, 88, 89, 90, 91, 92, 93, 94, 95, 96, 97, 98] rfl (by decide +kernel)
set_option maxRecDepth 100000 in
theorem gX5_halt_X0_running : GoodIn wsX5_halt (wsV RX5 84 RX0 yX0_running wsX0_running) := goodIn_app (goodIn_r _ [71, 72, 73, 36] rfl (by decide +kernel)) ggX5_halt_X0_running
theorem dX5_halt_0 : decode cX5_halt 0 = .ok (.iload_n 1, 1) := by decide +kernel
theorem dX5_halt_1 : decode cX5_halt 1 = .ok (.invokestatic 36, 3) := by decide +kernel
theorem dX5_halt_4 : decode cX5_halt 4 = .ok (.aload_n 0, 1) := by decide +kernel
theorem dX5_halt_5 : decode cX5_halt 5 = .ok (.getfield 10, 3) := by decide +kernel
theorem dX5_halt_8 : decode cX5_halt 8 = .ok (.getfield 44, 3) := by decide +kernel
theorem dX5_halt_11 : decode cX5_halt 11 = .ok (.iload_n 1, 1) := by decide +kernel
theorem dX5_halt_12 : decode cX5_halt 12 = .ok (.aaload, 1) := by decide +kernel
theorem dX5_halt_13 : decode cX5_halt 13 = .ok (.invokevirtual 88, 3) := by decide +kernel
theorem dX5_halt_16 : decode cX5_halt 16 = .ok (.ifCond .ne 13, 3) := by decide +kernel
theorem dX5_halt_19 : decode cX5_halt 19 = .ok (.new 54, 3) := by decide +kernel
theorem dX5_halt_22 : decode cX5_halt 22 = .ok (.dup, 1) := by decide +kernel
theorem dX5_halt_23 : decode cX5_halt 23 = .ok (.ldc 91, 2) := by decide +kernel
theorem dX5_halt_25 : decode cX5_halt 25 = .ok (.invokespecial 58, 3) := by decide +kernel
theorem dX5_halt_28 : decode cX5_halt 28 = .ok (.athrow, 1) := by decide +kernel
theorem dX5_halt_29 : decode cX5_halt 29 = .ok (.aload_n 0, 1) := by decide +kernel
theorem dX5_halt_30 : decode cX5_halt 30 = .ok (.getfield 25, 3) := by decide +kernel
theorem dX5_halt_33 : decode cX5_halt 33 = .ok (.aload_n 0, 1) := by decide +kernel
theorem dX5_halt_34 : decode cX5_halt 34 = .ok (.getfield 10, 3) := by decide +kernel
theorem dX5_halt_37 : decode cX5_halt 37 = .ok (.invokevirtual 61, 3) := by decide +kernel
theorem dX5_halt_40 : decode cX5_halt 40 = .ok (.aload_n 0, 1) := by decide +kernel
theorem dX5_halt_41 : decode cX5_halt 41 = .ok (.getfield 10, 3) := by decide +kernel
theorem dX5_halt_44 : decode cX5_halt 44 = .ok (.getfield 44, 3) := by decide +kernel
theorem dX5_halt_47 : decode cX5_halt 47 = .ok (.iload_n 1, 1) := by decide +kernel
theorem dX5_halt_48 : decode cX5_halt 48 = .ok (.aaload, 1) := by decide +kernel
theorem dX5_halt_49 : decode cX5_halt 49 = .ok (.invokevirtual 93, 3) := by decide +kernel
theorem dX5_halt_52 : decode cX5_halt 52 = .ok (.aload_n 0, 1) := by decide +kernel
theorem dX5_halt_53 : decode cX5_halt 53 = .ok (.getfield 10, 3) := by decide +kernel
theorem dX5_halt_56 : decode cX5_halt 56 = .ok (.invokevirtual 84, 3) := by decide +kernel
theorem dX5_halt_59 : decode cX5_halt 59 = .ok (.ireturn, 1) := by decide +kernel
set_option maxRecDepth 100000 in
theorem ggX5_close_X5_needSet : GoodIn wsX5_close wsX5_needSet := goodIn_ca (goodIn_r _ [9, 10, 11, 12, 13, 8, 14] rfl (by decide +kernel)) (goodIn_sub (fun _ h => List.mem_cons_of_mem _ (List.mem_append_right _ h)) (by decide +kernel))
set_option maxRecDepth 100000 in
theorem gX5_close_X5_needSet : GoodIn wsX5_close (va_wsS RX5 36 yX5_needSet wsX5_needSet) := goodIn_app (goodIn_r _ [6, 7, 8] rfl (by decide +kernel)) ggX5_close_X5_needSet
set_option maxRecDepth 100000 in
theorem ggX5_close_X0_whyNotClosed : GoodIn wsX5_close wsX0_whyNotClosed := goodIn_r _ [19, 20, 21, 22, 23, 24, 25, 26, 27, 28, 29, 30, 31, 18, 32, 33, 34, 35, 36, 37, 38, 39, 40, 41, 42, 43, 44, 45, 46, 47, 48, 49, 50, 51, 52, 53, 54, 55, 56, 57, 58, 59, 60, 61, 62, 63, 64, 114, 115, 116, 117, 118, 119, 120, 121, 122, 123, 124, 125, 126, 127, 128, 129, 130, 131] rfl (by decide +kernel)
set_option maxRecDepth 100000 in
theorem gX5_close_X0_whyNotClosed : GoodIn wsX5_close (wsV RX5 96 RX0 yX0_whyNotClosed wsX0_whyNotClosed) := goodIn_app (goodIn_r _ [15, 16, 17, 18] rfl (by decide +kernel)) ggX5_close_X0_whyNotClosed
set_option maxRecDepth 100000 in
theorem ggX5_close_X3_save : GoodIn wsX5_close wsX3_save := goodIn_r _ [69, 70, 71, 72, 73, 74, 68, 75, 76, 77, 78, 18, 79, 20, 41, 28, 80, 81, 82, 83, 84, 51, 85, 56, 54, 55, 86, 53, 61, 87, 88, 89, 90, 91, 92, 93, 94, 95, 96, 97, 98, 132, 133, 114, 115, 116, 117, 118, 119, 120, 121, 122, 123, 124, 125, 126, 127, 128, 129, 130, 131] rfl (by decide +kernel)
set_option maxRecDepth 100000 in
theorem gX5_close_X3_save : GoodIn wsX5_close (wsV RX5 61 RX3 yX3_save wsX3_save) := goodIn_app (goodIn_r _ [65, 66, 67, 68] rfl (by decide +kernel)) ggX5_close_X3_save
set_option maxRecDepth 100000 in
theorem ggX5_close_X1_closeBreaker : GoodIn wsX5_close wsX1_closeBreaker := goodIn_r _ [102, 53, 103, 104, 105, 51, 106, 61, 87, 88, 119, 120, 121, 122, 123, 124, 125, 126, 127, 128] rfl (by decide +kernel)
set_option maxRecDepth 100000 in
theorem gX5_close_X1_closeBreaker : GoodIn wsX5_close (wsV RX5 102 RX1 yX1_closeBreaker wsX1_closeBreaker) := goodIn_app (goodIn_r _ [99, 100, 101, 51] rfl (by decide +kernel)) ggX5_close_X1_closeBreaker
set_option maxRecDepth 100000 in
theorem ggX5_close_X0_frequency : GoodIn wsX5_close wsX0_frequency := goodIn_r _ [36, 29, 30, 31, 18, 32, 20, 22, 37, 38, 39, 40, 41, 42, 43, 44, 45, 46, 47, 48, 49, 50, 51, 52, 53, 54, 55, 56, 114, 115, 116, 117, 118, 119, 120, 121, 122, 123, 124, 125, 126, 127, 128, 129, 130, 131] rfl (by decide +kernel)
set_option maxRecDepth 100000 in
theorem gX5_close_X0_frequency : GoodIn wsX5_close (wsV RX5 105 RX0 yX0_frequency wsX0_frequency) := goodIn_app (goodIn_r _ [107, 34, 35, 18] rfl (by decide +kernel)) ggX5_close_X0_frequency
theorem dX5_close_0 : decode cX5_close 0 = .ok (.iload_n 1, 1) := by decide +kernel
theorem dX5_close_1 : decode cX5_close 1 = .ok (.invokestatic 36, 3) := by decide +kernel
theorem dX5_close_4 : decode cX5_close 4 = .ok (.aload_n 0, 1) := by decide +kernel
theorem dX5_close_5 : decode cX5_close 5 = .ok (.getfield 10, 3) := by decide +kernel
theorem dX5_close_8 : decode cX5_close 8 = .ok (.iload_n 1, 1) := by decide +kernel
theorem dX5_close_9 : decode cX5_close 9 = .ok (.invokevirtual 96, 3) := by decide +kernel
theorem dX5_close_12 : decode cX5_close 12 = .ok (.ifCond .eq 13, 3) := by decide +kernel
theorem dX5_close_15 : decode cX5_close 15 = .ok (.new 54, 3) := by decide +kernel
theorem dX5_close_18 : decode cX5_close 18 = .ok (.dup, 1) := by decide +kernel
theorem dX5_close_19 : decode cX5_close 19 = .ok (.ldc 100, 2) := by decide +kernel
theorem dX5_close_21 : decode cX5_close 21 = .ok (.invokespecial 58, 3) := by decide +kernel
theorem dX5_close_24 : decode cX5_close 24 = .ok (.athrow, 1) := by decide +kernel
theorem dX5_close_25 : decode cX5_close 25 = .ok (.aload_n 0, 1) := by decide +kernel
theorem dX5_close_26 : decode cX5_close 26 = .ok (.getfield 25, 3) := by decide +kernel
theorem dX5_close_29 : decode cX5_close 29 = .ok (.aload_n 0, 1) := by decide +kernel
theorem dX5_close_30 : decode cX5_close 30 = .ok (.getfield 10, 3) := by decide +kernel
theorem dX5_close_33 : decode cX5_close 33 = .ok (.invokevirtual 61, 3) := by decide +kernel
theorem dX5_close_36 : decode cX5_close 36 = .ok (.aload_n 0, 1) := by decide +kernel
theorem dX5_close_37 : decode cX5_close 37 = .ok (.getfield 10, 3) := by decide +kernel
theorem dX5_close_40 : decode cX5_close 40 = .ok (.getfield 44, 3) := by decide +kernel
theorem dX5_close_43 : decode cX5_close 43 = .ok (.iload_n 1, 1) := by decide +kernel
theorem dX5_close_44 : decode cX5_close 44 = .ok (.aaload, 1) := by decide +kernel
theorem dX5_close_45 : decode cX5_close 45 = .ok (.invokevirtual 102, 3) := by decide +kernel
theorem dX5_close_48 : decode cX5_close 48 = .ok (.aload_n 0, 1) := by decide +kernel
theorem dX5_close_49 : decode cX5_close 49 = .ok (.getfield 10, 3) := by decide +kernel
theorem dX5_close_52 : decode cX5_close 52 = .ok (.invokevirtual 105, 3) := by decide +kernel
theorem dX5_close_55 : decode cX5_close 55 = .ok (.ireturn, 1) := by decide +kernel
set_option maxRecDepth 100000 in
theorem ggX5_open_X5_needSet : GoodIn wsX5_open wsX5_needSet := goodIn_ca (goodIn_r _ [10, 11, 12, 13, 14, 9, 15] rfl (by decide +kernel)) (goodIn_sub (fun _ h => List.mem_cons_of_mem _ (List.mem_append_right _ h)) (by decide +kernel))
set_option maxRecDepth 100000 in
theorem gX5_open_X5_needSet : GoodIn wsX5_open (va_wsS RX5 36 yX5_needSet wsX5_needSet) := goodIn_app (goodIn_r _ [7, 8, 9] rfl (by decide +kernel)) ggX5_open_X5_needSet
set_option maxRecDepth 100000 in
theorem ggX5_open_X3_save : GoodIn wsX5_open wsX3_save := goodIn_r _ [20, 21, 22, 23, 24, 25, 19, 26, 27, 28, 29, 30, 31, 32, 33, 34, 35, 36, 37, 38, 39, 40, 41, 42, 43, 44, 45, 46, 47, 48, 49, 50, 51, 52, 53, 54, 55, 56, 57, 58, 59, 112, 113, 97, 98, 99, 100, 101, 102, 103, 104, 105, 106, 107, 108, 109, 110, 111, 114, 115, 116] rfl (by decide +kernel)
set_option maxRecDepth 100000 in
theorem gX5_open_X3_save : GoodIn wsX5_open (wsV RX5 61 RX3 yX3_save wsX3_save) := goodIn_app (goodIn_r _ [16, 17, 18, 19] rfl (by decide +kernel)) ggX5_open_X3_save
set_option maxRecDepth 100000 in
theorem ggX5_open_X1_openBreaker : GoodIn wsX5_open wsX1_openBreaker := goodIn_r _ [63, 46, 64, 65, 66, 40, 67, 47, 48, 49, 102, 103, 104, 105, 106, 107, 108, 109, 110, 111] rfl (by decide +kernel)
set_option maxRecDepth 100000 in
theorem gX5_open_X1_openBreaker : GoodIn wsX5_open (wsV RX5 113 RX1 yX1_openBreaker wsX1_openBreaker) := goodIn_app (goodIn_r _ [60, 61, 62, 40] rfl (by decide +kernel)) ggX5_open_X1_openBreaker
set_option maxRecDepth 100000 in
theorem ggX5_open_X0_frequency : GoodIn wsX5_open wsX0_frequency := goodIn_r _ [71, 72, 73, 74, 30, 75, 32, 76, 77, 78, 79, 80, 33, 81, 82, 83, 84, 85, 86, 87, 88, 89, 40, 90, 46, 43, 44, 42, 97, 98, 99, 100, 101, 102, 103, 104, 105, 106, 107, 108, 109, 110, 111, 114, 115, 116] rfl (by decide +kernel)
set_option maxRecDepth 100000 in
theorem gX5_open_X0_frequency : GoodIn wsX5_open (wsV RX5 105 RX0 yX0_frequency wsX0_frequency) := goodIn_app (goodIn_r _ [68, 69, 70, 30] rfl (by decide +kernel)) ggX5_open_X0_frequency
theorem dX5_open_0 : decode cX5_open 0 = .ok (.iload_n 1, 1) := by decide +kernel
theorem dX5_open_1 : decode cX5_open 1 = .ok (.invokestatic 36, 3) := by decide +kernel
theorem dX5_open_4 : decode cX5_open 4 = .ok (.aload_n 0, 1) := by decide +kernel
theorem dX5_open_5 : decode cX5_open 5 = .ok (.getfield 10, 3) := by decide +kernel
theorem dX5_open_8 : decode cX5_open 8 = .ok (.getfield 44, 3) := by decide +kernel
theorem dX5_open_11 : decode cX5_open 11 = .ok (.iload_n 1, 1) := by decide +kernel
theorem dX5_open_12 : decode cX5_open 12 = .ok (.aaload, 1) := by decide +kernel
theorem dX5_open_13 : decode cX5_open 13 = .ok (.getfield 108, 3) := by decide +kernel
theorem dX5_open_16 : decode cX5_open 16 = .ok (.ifCond .ne 13, 3) := by decide +kernel
theorem dX5_open_19 : decode cX5_open 19 = .ok (.new 54, 3) := by decide +kernel
theorem dX5_open_22 : decode cX5_open 22 = .ok (.dup, 1) := by decide +kernel
theorem dX5_open_23 : decode cX5_open 23 = .ok (.ldc 111, 2) := by decide +kernel
theorem dX5_open_25 : decode cX5_open 25 = .ok (.invokespecial 58, 3) := by decide +kernel
theorem dX5_open_28 : decode cX5_open 28 = .ok (.athrow, 1) := by decide +kernel
theorem dX5_open_29 : decode cX5_open 29 = .ok (.aload_n 0, 1) := by decide +kernel
theorem dX5_open_30 : decode cX5_open 30 = .ok (.getfield 25, 3) := by decide +kernel
theorem dX5_open_33 : decode cX5_open 33 = .ok (.aload_n 0, 1) := by decide +kernel
theorem dX5_open_34 : decode cX5_open 34 = .ok (.getfield 10, 3) := by decide +kernel
theorem dX5_open_37 : decode cX5_open 37 = .ok (.invokevirtual 61, 3) := by decide +kernel
theorem dX5_open_40 : decode cX5_open 40 = .ok (.aload_n 0, 1) := by decide +kernel
theorem dX5_open_41 : decode cX5_open 41 = .ok (.getfield 10, 3) := by decide +kernel
theorem dX5_open_44 : decode cX5_open 44 = .ok (.getfield 44, 3) := by decide +kernel
theorem dX5_open_47 : decode cX5_open 47 = .ok (.iload_n 1, 1) := by decide +kernel
theorem dX5_open_48 : decode cX5_open 48 = .ok (.aaload, 1) := by decide +kernel
theorem dX5_open_49 : decode cX5_open 49 = .ok (.invokevirtual 113, 3) := by decide +kernel
theorem dX5_open_52 : decode cX5_open 52 = .ok (.aload_n 0, 1) := by decide +kernel
theorem dX5_open_53 : decode cX5_open 53 = .ok (.getfield 10, 3) := by decide +kernel
theorem dX5_open_56 : decode cX5_open 56 = .ok (.invokevirtual 105, 3) := by decide +kernel
theorem dX5_open_59 : decode cX5_open 59 = .ok (.ireturn, 1) := by decide +kernel
set_option maxRecDepth 100000 in
theorem ggX5_load_X5_needFeeder : GoodIn wsX5_load wsX5_needFeeder := goodIn_ca (goodIn_r _ [8, 9, 10, 11, 12, 7, 13] rfl (by decide +kernel)) (goodIn_sub (fun _ h => List.mem_cons_of_mem _ (List.mem_append_left _ (List.mem_append_right _ h))) (by decide +kernel))
set_option maxRecDepth 100000 in
theorem gX5_load_X5_needFeeder : GoodIn wsX5_load (va_wsS RX5 116 yX5_needFeeder wsX5_needFeeder) := goodIn_app (goodIn_r _ [5, 6, 7] rfl (by decide +kernel)) ggX5_load_X5_needFeeder
set_option maxRecDepth 100000 in
theorem ggX5_load_X5_needRange : GoodIn wsX5_load wsX5_needRange := goodIn_ca (goodIn_r _ [16, 17, 18] rfl (by decide +kernel)) (goodIn_sub (fun _ h => List.mem_cons_of_mem _ (List.mem_append_right _ h)) (by decide +kernel))
set_option maxRecDepth 100000 in
theorem gX5_load_X5_needRange : GoodIn wsX5_load (va_wsS RX5 40 yX5_needRange wsX5_needRange) := goodIn_app (goodIn_r _ [14, 15, 7] rfl (by decide +kernel)) ggX5_load_X5_needRange
set_option maxRecDepth 100000 in
theorem ggX5_load_X3_save : GoodIn wsX5_load wsX3_save := goodIn_r _ [23, 24, 25, 26, 27, 28, 22, 29, 30, 31, 32, 33, 34, 35, 36, 37, 38, 39, 40, 41, 42, 43, 44, 45, 46, 47, 48, 49, 50, 51, 52, 53, 54, 55, 56, 57, 58, 59, 60, 61, 62, 77, 78, 69, 70, 71, 72, 73, 79, 80, 81, 82, 83, 84, 85, 86, 87, 88, 74, 75, 76] rfl (by decide +kernel)
set_option maxRecDepth 100000 in
theorem gX5_load_X3_save : GoodIn wsX5_load (wsV RX5 61 RX3 yX3_save wsX3_save) := goodIn_app (goodIn_r _ [19, 20, 21, 22] rfl (by decide +kernel)) ggX5_load_X3_save
theorem dX5_load_0 : decode cX5_load 0 = .ok (.iload_n 1, 1) := by decide +kernel
theorem dX5_load_1 : decode cX5_load 1 = .ok (.invokestatic 116, 3) := by decide +kernel
theorem dX5_load_4 : decode cX5_load 4 = .ok (.iload_n 2, 1) := by decide +kernel
theorem dX5_load_5 : decode cX5_load 5 = .ok (.iconst 0, 1) := by decide +kernel
theorem dX5_load_6 : decode cX5_load 6 = .ok (.sipush 300, 3) := by decide +kernel
theorem dX5_load_9 : decode cX5_load 9 = .ok (.invokestatic 40, 3) := by decide +kernel
theorem dX5_load_12 : decode cX5_load 12 = .ok (.aload_n 0, 1) := by decide +kernel
theorem dX5_load_13 : decode cX5_load 13 = .ok (.getfield 25, 3) := by decide +kernel
theorem dX5_load_16 : decode cX5_load 16 = .ok (.aload_n 0, 1) := by decide +kernel
theorem dX5_load_17 : decode cX5_load 17 = .ok (.getfield 10, 3) := by decide +kernel
theorem dX5_load_20 : decode cX5_load 20 = .ok (.invokevirtual 61, 3) := by decide +kernel
theorem dX5_load_23 : decode cX5_load 23 = .ok (.aload_n 0, 1) := by decide +kernel
theorem dX5_load_24 : decode cX5_load 24 = .ok (.getfield 10, 3) := by decide +kernel
theorem dX5_load_27 : decode cX5_load 27 = .ok (.getfield 119, 3) := by decide +kernel
theorem dX5_load_30 : decode cX5_load 30 = .ok (.iload_n 1, 1) := by decide +kernel
theorem dX5_load_31 : decode cX5_load 31 = .ok (.aaload, 1) := by decide +kernel
theorem dX5_load_32 : decode cX5_load 32 = .ok (.getfield 123, 3) := by decide +kernel
theorem dX5_load_35 : decode cX5_load 35 = .ok (.istore_n 3, 1) := by decide +kernel
theorem dX5_load_36 : decode cX5_load 36 = .ok (.aload_n 0, 1) := by decide +kernel
theorem dX5_load_37 : decode cX5_load 37 = .ok (.getfield 10, 3) := by decide +kernel
theorem dX5_load_40 : decode cX5_load 40 = .ok (.getfield 119, 3) := by decide +kernel
theorem dX5_load_43 : decode cX5_load 43 = .ok (.iload_n 1, 1) := by decide +kernel
theorem dX5_load_44 : decode cX5_load 44 = .ok (.aaload, 1) := by decide +kernel
theorem dX5_load_45 : decode cX5_load 45 = .ok (.iload_n 2, 1) := by decide +kernel
theorem dX5_load_46 : decode cX5_load 46 = .ok (.putfield 123, 3) := by decide +kernel
theorem dX5_load_49 : decode cX5_load 49 = .ok (.iload_n 3, 1) := by decide +kernel
theorem dX5_load_50 : decode cX5_load 50 = .ok (.ireturn, 1) := by decide +kernel
set_option maxRecDepth 100000 in
theorem ggX5_feeder_X5_needFeeder : GoodIn wsX5_feeder wsX5_needFeeder := goodIn_ca (goodIn_r _ [8, 9, 10, 11, 12, 7, 13] rfl (by decide +kernel)) (goodIn_sub (fun _ h => List.mem_cons_of_mem _ (List.mem_append_left _ (List.mem_append_right _ h))) (by decide +kernel))
set_option maxRecDepth 100000 in
theorem gX5_feeder_X5_needFeeder : GoodIn wsX5_feeder (va_wsS RX5 116 yX5_needFeeder wsX5_needFeeder) := goodIn_app (goodIn_r _ [5, 6, 7] rfl (by decide +kernel)) ggX5_feeder_X5_needFeeder
set_option maxRecDepth 100000 in
theorem ggX5_feeder_X5_needRange : GoodIn wsX5_feeder wsX5_needRange := goodIn_ca (goodIn_r _ [16, 17, 18] rfl (by decide +kernel)) (goodIn_sub (fun _ h => List.mem_cons_of_mem _ (List.mem_append_right _ h)) (by decide +kernel))
set_option maxRecDepth 100000 in
theorem gX5_feeder_X5_needRange : GoodIn wsX5_feeder (va_wsS RX5 40 yX5_needRange wsX5_needRange) := goodIn_app (goodIn_r _ [14, 15, 7] rfl (by decide +kernel)) ggX5_feeder_X5_needRange
set_option maxRecDepth 100000 in
theorem ggX5_feeder_X3_save : GoodIn wsX5_feeder wsX3_save := goodIn_r _ [23, 24, 25, 26, 27, 28, 22, 29, 30, 31, 32, 33, 34, 35, 36, 37, 38, 39, 40, 41, 42, 43, 44, 45, 46, 47, 48, 49, 50, 51, 52, 53, 54, 55, 56, 57, 58, 59, 60, 61, 62, 80, 81, 72, 73, 74, 75, 76, 82, 83, 84, 85, 86, 87, 88, 89, 90, 91, 77, 78, 79] rfl (by decide +kernel)
set_option maxRecDepth 100000 in
theorem gX5_feeder_X3_save : GoodIn wsX5_feeder (wsV RX5 61 RX3 yX3_save wsX3_save) := goodIn_app (goodIn_r _ [19, 20, 21, 22] rfl (by decide +kernel)) ggX5_feeder_X3_save
set_option maxRecDepth 100000 in
theorem ggX5_feeder_X5_oneIf : GoodIn wsX5_feeder wsX5_oneIf := goodIn_r _ [65] rfl (by decide +kernel)
set_option maxRecDepth 100000 in
theorem gX5_feeder_X5_oneIf : GoodIn wsX5_feeder (va_wsS RX5 131 yX5_oneIf wsX5_oneIf) := goodIn_app (goodIn_r _ [63, 64, 7] rfl (by decide +kernel)) ggX5_feeder_X5_oneIf
theorem dX5_feeder_0 : decode cX5_feeder 0 = .ok (.iload_n 1, 1) := by decide +kernel
theorem dX5_feeder_1 : decode cX5_feeder 1 = .ok (.invokestatic 116, 3) := by decide +kernel
theorem dX5_feeder_4 : decode cX5_feeder 4 = .ok (.iload_n 2, 1) := by decide +kernel
theorem dX5_feeder_5 : decode cX5_feeder 5 = .ok (.iconst 0, 1) := by decide +kernel
theorem dX5_feeder_6 : decode cX5_feeder 6 = .ok (.iconst 1, 1) := by decide +kernel
theorem dX5_feeder_7 : decode cX5_feeder 7 = .ok (.invokestatic 40, 3) := by decide +kernel
theorem dX5_feeder_10 : decode cX5_feeder 10 = .ok (.aload_n 0, 1) := by decide +kernel
theorem dX5_feeder_11 : decode cX5_feeder 11 = .ok (.getfield 25, 3) := by decide +kernel
theorem dX5_feeder_14 : decode cX5_feeder 14 = .ok (.aload_n 0, 1) := by decide +kernel
theorem dX5_feeder_15 : decode cX5_feeder 15 = .ok (.getfield 10, 3) := by decide +kernel
theorem dX5_feeder_18 : decode cX5_feeder 18 = .ok (.invokevirtual 61, 3) := by decide +kernel
theorem dX5_feeder_21 : decode cX5_feeder 21 = .ok (.aload_n 0, 1) := by decide +kernel
theorem dX5_feeder_22 : decode cX5_feeder 22 = .ok (.getfield 10, 3) := by decide +kernel
theorem dX5_feeder_25 : decode cX5_feeder 25 = .ok (.getfield 119, 3) := by decide +kernel
theorem dX5_feeder_28 : decode cX5_feeder 28 = .ok (.iload_n 1, 1) := by decide +kernel
theorem dX5_feeder_29 : decode cX5_feeder 29 = .ok (.aaload, 1) := by decide +kernel
theorem dX5_feeder_30 : decode cX5_feeder 30 = .ok (.getfield 128, 3) := by decide +kernel
theorem dX5_feeder_33 : decode cX5_feeder 33 = .ok (.invokestatic 131, 3) := by decide +kernel
theorem dX5_feeder_36 : decode cX5_feeder 36 = .ok (.istore_n 3, 1) := by decide +kernel
theorem dX5_feeder_37 : decode cX5_feeder 37 = .ok (.aload_n 0, 1) := by decide +kernel
theorem dX5_feeder_38 : decode cX5_feeder 38 = .ok (.getfield 10, 3) := by decide +kernel
theorem dX5_feeder_41 : decode cX5_feeder 41 = .ok (.getfield 119, 3) := by decide +kernel
theorem dX5_feeder_44 : decode cX5_feeder 44 = .ok (.iload_n 1, 1) := by decide +kernel
theorem dX5_feeder_45 : decode cX5_feeder 45 = .ok (.aaload, 1) := by decide +kernel
theorem dX5_feeder_46 : decode cX5_feeder 46 = .ok (.iload_n 2, 1) := by decide +kernel
theorem dX5_feeder_47 : decode cX5_feeder 47 = .ok (.iconst 1, 1) := by decide +kernel
theorem dX5_feeder_48 : decode cX5_feeder 48 = .ok (.if_icmp .ne 7, 3) := by decide +kernel
theorem dX5_feeder_51 : decode cX5_feeder 51 = .ok (.iconst 1, 1) := by decide +kernel
theorem dX5_feeder_52 : decode cX5_feeder 52 = .ok (.goto 4, 3) := by decide +kernel
theorem dX5_feeder_55 : decode cX5_feeder 55 = .ok (.iconst 0, 1) := by decide +kernel
theorem dX5_feeder_56 : decode cX5_feeder 56 = .ok (.putfield 128, 3) := by decide +kernel
theorem dX5_feeder_59 : decode cX5_feeder 59 = .ok (.iload_n 3, 1) := by decide +kernel
theorem dX5_feeder_60 : decode cX5_feeder 60 = .ok (.ireturn, 1) := by decide +kernel
set_option maxRecDepth 100000 in
theorem ggX5_pass_X5_needRange : GoodIn wsX5_pass wsX5_needRange := goodIn_ca (goodIn_r _ [6, 7, 8] rfl (by decide +kernel)) (goodIn_sub (fun _ h => List.mem_cons_of_mem _ (List.mem_append_right _ h)) (by decide +kernel))
set_option maxRecDepth 100000 in
theorem gX5_pass_X5_needRange : GoodIn wsX5_pass (va_wsS RX5 40 yX5_needRange wsX5_needRange) := goodIn_app (goodIn_r _ [3, 4, 5] rfl (by decide +kernel)) ggX5_pass_X5_needRange
set_option maxRecDepth 100000 in
theorem ggX5_pass_X3_save : GoodIn wsX5_pass wsX3_save := goodIn_r _ [13, 14, 15, 16, 17, 18, 12, 19, 20, 21, 22, 23, 24, 25, 26, 27, 28, 29, 30, 31, 32, 33, 34, 35, 36, 37, 38, 39, 40, 41, 42, 43, 44, 45, 46, 47, 48, 49, 50, 51, 52, 134, 135, 136, 137, 138, 139, 140, 141, 142, 143, 144, 145, 146, 147, 148, 149, 150, 151, 152, 153] rfl (by decide +kernel)
set_option maxRecDepth 100000 in
theorem gX5_pass_X3_save : GoodIn wsX5_pass (wsV RX5 61 RX3 yX3_save wsX3_save) := goodIn_app (goodIn_r _ [9, 10, 11, 12] rfl (by decide +kernel)) ggX5_pass_X3_save
set_option maxRecDepth 100000 in
theorem ggX5_pass_X0_passTicks : GoodIn wsX5_pass wsX0_passTicks := goodIn_r _ [56, 57, 58, 59, 23, 60, 29, 25, 28, 61, 62, 63, 64, 65, 66, 67, 68, 69, 70, 71, 72, 73, 26, 74, 75, 76, 77, 78, 79, 80, 81, 82, 33, 83, 39, 36, 37, 35, 84, 85, 86, 87, 88, 89, 90, 91, 92, 93, 94, 95, 96, 97, 98, 99, 100, 101, 102, 103, 43, 41, 42, 38, 40, 104, 105, 106, 107, 108, 109, 110, 111, 112, 113, 114, 115, 116, 117, 27, 118, 119, 120, 121, 122, 123, 124, 125, 126, 127, 136, 137, 138, 139, 140, 141, 142, 143, 144, 145, 146, 147, 148, 149, 150, 151, 152, 153] rfl (by decide +kernel)
set_option maxRecDepth 100000 in
theorem gX5_pass_X0_passTicks : GoodIn wsX5_pass (wsV RX5 135 RX0 yX0_passTicks wsX0_passTicks) := goodIn_app (goodIn_r _ [53, 54, 55, 23] rfl (by decide +kernel)) ggX5_pass_X0_passTicks
theorem dX5_pass_0 : decode cX5_pass 0 = .ok (.iload_n 1, 1) := by decide +kernel
theorem dX5_pass_1 : decode cX5_pass 1 = .ok (.iconst 1, 1) := by decide +kernel
theorem dX5_pass_2 : decode cX5_pass 2 = .ok (.bipush 99, 2) := by decide +kernel
theorem dX5_pass_4 : decode cX5_pass 4 = .ok (.invokestatic 40, 3) := by decide +kernel
theorem dX5_pass_7 : decode cX5_pass 7 = .ok (.aload_n 0, 1) := by decide +kernel
theorem dX5_pass_8 : decode cX5_pass 8 = .ok (.getfield 25, 3) := by decide +kernel
theorem dX5_pass_11 : decode cX5_pass 11 = .ok (.aload_n 0, 1) := by decide +kernel
theorem dX5_pass_12 : decode cX5_pass 12 = .ok (.getfield 10, 3) := by decide +kernel
theorem dX5_pass_15 : decode cX5_pass 15 = .ok (.invokevirtual 61, 3) := by decide +kernel
theorem dX5_pass_18 : decode cX5_pass 18 = .ok (.aload_n 0, 1) := by decide +kernel
theorem dX5_pass_19 : decode cX5_pass 19 = .ok (.getfield 10, 3) := by decide +kernel
theorem dX5_pass_22 : decode cX5_pass 22 = .ok (.iload_n 1, 1) := by decide +kernel
theorem dX5_pass_23 : decode cX5_pass 23 = .ok (.invokevirtual 135, 3) := by decide +kernel
theorem dX5_pass_26 : decode cX5_pass 26 = .ok (.ireturn, 1) := by decide +kernel
set_option maxRecDepth 100000 in
theorem ggX5_set_X5_needSetting : GoodIn wsX5_set wsX5_needSetting := goodIn_ca (goodIn_r _ [9, 10, 11] rfl (by decide +kernel)) (goodIn_sub (fun _ h => List.mem_cons_of_mem _ (List.mem_append_left _ (List.mem_append_right _ h))) (by decide +kernel))
set_option maxRecDepth 100000 in
theorem gX5_set_X5_needSetting : GoodIn wsX5_set (va_wsS RX5 138 yX5_needSetting wsX5_needSetting) := goodIn_app (goodIn_r _ [6, 7, 8] rfl (by decide +kernel)) ggX5_set_X5_needSetting
set_option maxRecDepth 100000 in
theorem ggX5_set_X5_needRange : GoodIn wsX5_set wsX5_needRange := goodIn_ca (goodIn_r _ [14, 15, 16] rfl (by decide +kernel)) (goodIn_sub (fun _ h => List.mem_cons_of_mem _ (List.mem_append_right _ h)) (by decide +kernel))
set_option maxRecDepth 100000 in
theorem gX5_set_X5_needRange : GoodIn wsX5_set (va_wsS RX5 40 yX5_needRange wsX5_needRange) := goodIn_app (goodIn_r _ [12, 13, 8] rfl (by decide +kernel)) ggX5_set_X5_needRange
set_option maxRecDepth 100000 in
theorem ggX5_set_X3_save : GoodIn wsX5_set wsX3_save := goodIn_r _ [21, 22, 23, 24, 25, 26, 20, 27, 28, 29, 30, 31, 32, 33, 34, 35, 36, 37, 38, 39, 40, 41, 42, 43, 44, 45, 46, 47, 48, 49, 50, 51, 52, 53, 54, 55, 56, 57, 58, 59, 60, 72, 73, 67, 68, 69, 70, 71, 74, 75, 76, 77, 78, 79, 80, 81, 82, 83, 84, 85, 86] rfl (by decide +kernel)
set_option maxRecDepth 100000 in
theorem gX5_set_X3_save : GoodIn wsX5_set (wsV RX5 61 RX3 yX3_save wsX3_save) := goodIn_app (goodIn_r _ [17, 18, 19, 20] rfl (by decide +kernel)) ggX5_set_X3_save
theorem dX5_set_0 : decode cX5_set 0 = .ok (.iload_n 1, 1) := by decide +kernel
theorem dX5_set_1 : decode cX5_set 1 = .ok (.invokestatic 138, 3) := by decide +kernel
theorem dX5_set_4 : decode cX5_set 4 = .ok (.iload_n 2, 1) := by decide +kernel
theorem dX5_set_5 : decode cX5_set 5 = .ok (.getstatic 141, 3) := by decide +kernel
theorem dX5_set_8 : decode cX5_set 8 = .ok (.iload_n 1, 1) := by decide +kernel
theorem dX5_set_9 : decode cX5_set 9 = .ok (.iaload, 1) := by decide +kernel
theorem dX5_set_10 : decode cX5_set 10 = .ok (.getstatic 145, 3) := by decide +kernel
theorem dX5_set_13 : decode cX5_set 13 = .ok (.iload_n 1, 1) := by decide +kernel
theorem dX5_set_14 : decode cX5_set 14 = .ok (.iaload, 1) := by decide +kernel
theorem dX5_set_15 : decode cX5_set 15 = .ok (.invokestatic 40, 3) := by decide +kernel
theorem dX5_set_18 : decode cX5_set 18 = .ok (.aload_n 0, 1) := by decide +kernel
theorem dX5_set_19 : decode cX5_set 19 = .ok (.getfield 25, 3) := by decide +kernel
theorem dX5_set_22 : decode cX5_set 22 = .ok (.aload_n 0, 1) := by decide +kernel
theorem dX5_set_23 : decode cX5_set 23 = .ok (.getfield 10, 3) := by decide +kernel
theorem dX5_set_26 : decode cX5_set 26 = .ok (.invokevirtual 61, 3) := by decide +kernel
theorem dX5_set_29 : decode cX5_set 29 = .ok (.aload_n 0, 1) := by decide +kernel
theorem dX5_set_30 : decode cX5_set 30 = .ok (.getfield 10, 3) := by decide +kernel
theorem dX5_set_33 : decode cX5_set 33 = .ok (.getfield 148, 3) := by decide +kernel
theorem dX5_set_36 : decode cX5_set 36 = .ok (.iload_n 1, 1) := by decide +kernel
theorem dX5_set_37 : decode cX5_set 37 = .ok (.iaload, 1) := by decide +kernel
theorem dX5_set_38 : decode cX5_set 38 = .ok (.istore_n 3, 1) := by decide +kernel
theorem dX5_set_39 : decode cX5_set 39 = .ok (.aload_n 0, 1) := by decide +kernel
theorem dX5_set_40 : decode cX5_set 40 = .ok (.getfield 10, 3) := by decide +kernel
theorem dX5_set_43 : decode cX5_set 43 = .ok (.getfield 148, 3) := by decide +kernel
theorem dX5_set_46 : decode cX5_set 46 = .ok (.iload_n 1, 1) := by decide +kernel
theorem dX5_set_47 : decode cX5_set 47 = .ok (.iload_n 2, 1) := by decide +kernel
theorem dX5_set_48 : decode cX5_set 48 = .ok (.iastore, 1) := by decide +kernel
theorem dX5_set_49 : decode cX5_set 49 = .ok (.iload_n 3, 1) := by decide +kernel
theorem dX5_set_50 : decode cX5_set 50 = .ok (.ireturn, 1) := by decide +kernel
set_option maxRecDepth 100000 in
theorem ggX5_append_X5_needRange : GoodIn wsX5_append wsX5_needRange := goodIn_ca (goodIn_r _ [8, 9, 10] rfl (by decide +kernel)) (goodIn_sub (fun _ h => List.mem_cons_of_mem _ (List.mem_append_right _ h)) (by decide +kernel))
set_option maxRecDepth 100000 in
theorem gX5_append_X5_needRange : GoodIn wsX5_append (va_wsS RX5 40 yX5_needRange wsX5_needRange) := goodIn_app (goodIn_r _ [5, 6, 7] rfl (by decide +kernel)) ggX5_append_X5_needRange
set_option maxRecDepth 100000 in
theorem ggX5_append_X4_isFull : GoodIn wsX5_append wsX4_isFull := goodIn_r _ [15, 16, 17, 29, 30] rfl (by decide +kernel)
set_option maxRecDepth 100000 in
theorem gX5_append_X4_isFull : GoodIn wsX5_append (wsV RX5 151 RX4 yX4_isFull wsX4_isFull) := goodIn_app (goodIn_r _ [11, 12, 13, 14] rfl (by decide +kernel)) ggX5_append_X4_isFull
set_option maxRecDepth 100000 in
theorem ggX5_append_X4_add : GoodIn wsX5_append wsX4_add := goodIn_r _ [21, 17, 16, 22, 12, 13, 14, 15, 29, 30] rfl (by decide +kernel)
set_option maxRecDepth 100000 in
theorem gX5_append_X4_add : GoodIn wsX5_append (wsV RX5 156 RX4 yX4_add wsX4_add) := goodIn_app (goodIn_r _ [18, 19, 20, 14] rfl (by decide +kernel)) ggX5_append_X4_add
theorem dX5_append_0 : decode cX5_append 0 = .ok (.iload_n 1, 1) := by decide +kernel
theorem dX5_append_1 : decode cX5_append 1 = .ok (.bipush 33, 2) := by decide +kernel
theorem dX5_append_3 : decode cX5_append 3 = .ok (.bipush 126, 2) := by decide +kernel
theorem dX5_append_5 : decode cX5_append 5 = .ok (.invokestatic 40, 3) := by decide +kernel
theorem dX5_append_8 : decode cX5_append 8 = .ok (.aload_n 0, 1) := by decide +kernel
theorem dX5_append_9 : decode cX5_append 9 = .ok (.getfield 32, 3) := by decide +kernel
theorem dX5_append_12 : decode cX5_append 12 = .ok (.invokevirtual 151, 3) := by decide +kernel
theorem dX5_append_15 : decode cX5_append 15 = .ok (.ifCond .eq 13, 3) := by decide +kernel
theorem dX5_append_18 : decode cX5_append 18 = .ok (.new 54, 3) := by decide +kernel
theorem dX5_append_21 : decode cX5_append 21 = .ok (.dup, 1) := by decide +kernel
theorem dX5_append_22 : decode cX5_append 22 = .ok (.ldc 154, 2) := by decide +kernel
theorem dX5_append_24 : decode cX5_append 24 = .ok (.invokespecial 58, 3) := by decide +kernel
theorem dX5_append_27 : decode cX5_append 27 = .ok (.athrow, 1) := by decide +kernel
theorem dX5_append_28 : decode cX5_append 28 = .ok (.aload_n 0, 1) := by decide +kernel
theorem dX5_append_29 : decode cX5_append 29 = .ok (.getfield 32, 3) := by decide +kernel
theorem dX5_append_32 : decode cX5_append 32 = .ok (.iload_n 1, 1) := by decide +kernel
theorem dX5_append_33 : decode cX5_append 33 = .ok (.invokevirtual 156, 3) := by decide +kernel
theorem dX5_append_36 : decode cX5_append 36 = .ok (.aload_n 0, 1) := by decide +kernel
theorem dX5_append_37 : decode cX5_append 37 = .ok (.getfield 32, 3) := by decide +kernel
theorem dX5_append_40 : decode cX5_append 40 = .ok (.getfield 159, 3) := by decide +kernel
theorem dX5_append_43 : decode cX5_append 43 = .ok (.ireturn, 1) := by decide +kernel
theorem dX5_clearBuffer_0 : decode cX5_clearBuffer 0 = .ok (.aload_n 0, 1) := by decide +kernel
theorem dX5_clearBuffer_1 : decode cX5_clearBuffer 1 = .ok (.getfield 32, 3) := by decide +kernel
theorem dX5_clearBuffer_4 : decode cX5_clearBuffer 4 = .ok (.getfield 159, 3) := by decide +kernel
theorem dX5_clearBuffer_7 : decode cX5_clearBuffer 7 = .ok (.istore_n 1, 1) := by decide +kernel
theorem dX5_clearBuffer_8 : decode cX5_clearBuffer 8 = .ok (.aload_n 0, 1) := by decide +kernel
theorem dX5_clearBuffer_9 : decode cX5_clearBuffer 9 = .ok (.getfield 32, 3) := by decide +kernel
theorem dX5_clearBuffer_12 : decode cX5_clearBuffer 12 = .ok (.iconst 0, 1) := by decide +kernel
theorem dX5_clearBuffer_13 : decode cX5_clearBuffer 13 = .ok (.putfield 159, 3) := by decide +kernel
theorem dX5_clearBuffer_16 : decode cX5_clearBuffer 16 = .ok (.iload_n 1, 1) := by decide +kernel
theorem dX5_clearBuffer_17 : decode cX5_clearBuffer 17 = .ok (.ireturn, 1) := by decide +kernel
set_option maxRecDepth 100000 in
theorem ggX5_firstError_X4_firstWrong : GoodIn wsX5_firstError wsX4_firstWrong := goodIn_r _ [6, 7, 8, 9, 10, 5, 11, 12, 13, 14, 15, 16, 17, 24, 25] rfl (by decide +kernel)
set_option maxRecDepth 100000 in
theorem gX5_firstError_X4_firstWrong : GoodIn wsX5_firstError (wsV RX5 162 RX4 yX4_firstWrong wsX4_firstWrong) := goodIn_app (goodIn_r _ [2, 3, 4, 5] rfl (by decide +kernel)) ggX5_firstError_X4_firstWrong
theorem dX5_firstError_0 : decode cX5_firstError 0 = .ok (.aload_n 0, 1) := by decide +kernel
theorem dX5_firstError_1 : decode cX5_firstError 1 = .ok (.getfield 32, 3) := by decide +kernel
theorem dX5_firstError_4 : decode cX5_firstError 4 = .ok (.invokevirtual 162, 3) := by decide +kernel
theorem dX5_firstError_7 : decode cX5_firstError 7 = .ok (.ireturn, 1) := by decide +kernel
set_option maxRecDepth 100000 in
theorem ggX5_obey_X4_isComplete : GoodIn wsX5_obey wsX4_isComplete := goodIn_r _ [11, 12, 13, 14, 15, 10, 16, 17, 18, 19, 20, 21, 22, 222, 223] rfl (by decide +kernel)
set_option maxRecDepth 100000 in
theorem gX5_obey_X4_isComplete : GoodIn wsX5_obey (wsV RX5 165 RX4 yX4_isComplete wsX4_isComplete) := goodIn_app (goodIn_r _ [7, 8, 9, 10] rfl (by decide +kernel)) ggX5_obey_X4_isComplete
set_option maxRecDepth 100000 in
theorem ggX5_obey_X3_save : GoodIn wsX5_obey wsX3_save := goodIn_r _ [27, 28, 29, 30, 31, 32, 26, 33, 34, 35, 36, 37, 38, 39, 40, 41, 42, 43, 44, 45, 46, 47, 48, 49, 50, 51, 52, 53, 54, 55, 56, 57, 58, 59, 60, 61, 62, 63, 64, 65, 66, 224, 225, 226, 227, 228, 229, 230, 231, 232, 233, 234, 235, 236, 237, 238, 239, 240, 241, 242, 243] rfl (by decide +kernel)
set_option maxRecDepth 100000 in
theorem gX5_obey_X3_save : GoodIn wsX5_obey (wsV RX5 61 RX3 yX3_save wsX3_save) := goodIn_app (goodIn_r _ [23, 24, 25, 26] rfl (by decide +kernel)) ggX5_obey_X3_save
set_option maxRecDepth 100000 in
theorem ggX5_obey_X4_endOfPart : GoodIn wsX5_obey wsX4_endOfPart := goodIn_r _ [70, 12, 71, 72, 73, 10, 74, 13, 222, 223] rfl (by decide +kernel)
set_option maxRecDepth 100000 in
theorem gX5_obey_X4_endOfPart : GoodIn wsX5_obey (wsV RX5 173 RX4 yX4_endOfPart wsX4_endOfPart) := goodIn_app (goodIn_r _ [67, 68, 69, 10] rfl (by decide +kernel)) ggX5_obey_X4_endOfPart
set_option maxRecDepth 100000 in
theorem ggX5_obey_X5_carryOut : GoodIn wsX5_obey wsX5_carryOut := goodIn_r _ [79, 3, 5, 80, 81, 82, 72, 73, 10, 74, 12, 13, 83, 84, 85, 86, 71, 87, 88, 89, 37, 90, 91, 92, 93, 94, 43, 39, 42, 95, 96, 97, 98, 99, 100, 101, 102, 103, 104, 105, 106, 107, 40, 108, 109, 110, 111, 112, 113, 114, 115, 116, 47, 117, 53, 50, 51, 49, 118, 119, 120, 121, 122, 123, 124, 125, 126, 127, 128, 129, 130, 131, 132, 133, 134, 135, 136, 137, 57, 55, 56, 52, 54, 138, 139, 140, 141, 142, 143, 144, 145, 146, 147, 148, 149, 150, 151, 41, 152, 153, 154, 155, 156, 157, 158, 159, 160, 161, 162, 163, 164, 78, 165, 166, 167, 168, 169, 170, 171, 172, 173, 174, 175, 176, 177, 178, 179, 180, 181, 182, 183, 184, 185, 186, 187, 188, 189, 190, 191, 192, 193, 194, 195, 196, 197, 198, 199, 200, 201, 202, 203, 204, 205, 206, 207, 208, 209, 210, 211, 212, 213, 214, 215, 216, 217, 218, 219, 220, 221, 226, 227, 228, 229, 230, 231, 232, 233, 234, 235, 236, 237, 238, 239, 240, 222, 223, 241, 242, 243] rfl (by decide +kernel)
set_option maxRecDepth 100000 in
theorem gX5_obey_X5_carryOut : GoodIn wsX5_obey (wsV RX5 176 RX5 yX5_carryOut wsX5_carryOut) := goodIn_app (goodIn_r _ [75, 76, 77, 78] rfl (by decide +kernel)) ggX5_obey_X5_carryOut
theorem dX5_obey_0 : decode cX5_obey 0 = .ok (.aload_n 0, 1) := by decide +kernel
theorem dX5_obey_1 : decode cX5_obey 1 = .ok (.getfield 32, 3) := by decide +kernel
theorem dX5_obey_4 : decode cX5_obey 4 = .ok (.invokevirtual 165, 3) := by decide +kernel
theorem dX5_obey_7 : decode cX5_obey 7 = .ok (.ifCond .ne 13, 3) := by decide +kernel
theorem dX5_obey_10 : decode cX5_obey 10 = .ok (.new 168, 3) := by decide +kernel
theorem dX5_obey_13 : decode cX5_obey 13 = .ok (.dup, 1) := by decide +kernel
theorem dX5_obey_14 : decode cX5_obey 14 = .ok (.ldc 170, 2) := by decide +kernel
theorem dX5_obey_16 : decode cX5_obey 16 = .ok (.invokespecial 172, 3) := by decide +kernel
theorem dX5_obey_19 : decode cX5_obey 19 = .ok (.athrow, 1) := by decide +kernel
theorem dX5_obey_20 : decode cX5_obey 20 = .ok (.aload_n 0, 1) := by decide +kernel
theorem dX5_obey_21 : decode cX5_obey 21 = .ok (.getfield 25, 3) := by decide +kernel
theorem dX5_obey_24 : decode cX5_obey 24 = .ok (.aload_n 0, 1) := by decide +kernel
theorem dX5_obey_25 : decode cX5_obey 25 = .ok (.getfield 10, 3) := by decide +kernel
theorem dX5_obey_28 : decode cX5_obey 28 = .ok (.invokevirtual 61, 3) := by decide +kernel
theorem dX5_obey_31 : decode cX5_obey 31 = .ok (.iconst 0, 1) := by decide +kernel
theorem dX5_obey_32 : decode cX5_obey 32 = .ok (.istore_n 1, 1) := by decide +kernel
theorem dX5_obey_33 : decode cX5_obey 33 = .ok (.iconst 0, 1) := by decide +kernel
theorem dX5_obey_34 : decode cX5_obey 34 = .ok (.istore_n 2, 1) := by decide +kernel
theorem dX5_obey_35 : decode cX5_obey 35 = .ok (.iconst 0, 1) := by decide +kernel
theorem dX5_obey_36 : decode cX5_obey 36 = .ok (.istore_n 3, 1) := by decide +kernel
theorem dX5_obey_37 : decode cX5_obey 37 = .ok (.iload_n 3, 1) := by decide +kernel
theorem dX5_obey_38 : decode cX5_obey 38 = .ok (.bipush 60, 2) := by decide +kernel
theorem dX5_obey_40 : decode cX5_obey 40 = .ok (.if_icmp .ge 51, 3) := by decide +kernel
theorem dX5_obey_43 : decode cX5_obey 43 = .ok (.iload_n 2, 1) := by decide +kernel
theorem dX5_obey_44 : decode cX5_obey 44 = .ok (.aload_n 0, 1) := by decide +kernel
theorem dX5_obey_45 : decode cX5_obey 45 = .ok (.getfield 32, 3) := by decide +kernel
theorem dX5_obey_48 : decode cX5_obey 48 = .ok (.getfield 159, 3) := by decide +kernel
theorem dX5_obey_51 : decode cX5_obey 51 = .ok (.if_icmp .ge 40, 3) := by decide +kernel
theorem dX5_obey_54 : decode cX5_obey 54 = .ok (.aload_n 0, 1) := by decide +kernel
theorem dX5_obey_55 : decode cX5_obey 55 = .ok (.getfield 32, 3) := by decide +kernel
theorem dX5_obey_58 : decode cX5_obey 58 = .ok (.iload_n 2, 1) := by decide +kernel
theorem dX5_obey_59 : decode cX5_obey 59 = .ok (.invokevirtual 173, 3) := by decide +kernel
theorem dX5_obey_62 : decode cX5_obey 62 = .ok (.istore 4, 2) := by decide +kernel
theorem dX5_obey_64 : decode cX5_obey 64 = .ok (.aload_n 0, 1) := by decide +kernel
theorem dX5_obey_65 : decode cX5_obey 65 = .ok (.iload_n 2, 1) := by decide +kernel
theorem dX5_obey_66 : decode cX5_obey 66 = .ok (.iload 4, 2) := by decide +kernel
theorem dX5_obey_68 : decode cX5_obey 68 = .ok (.invokevirtual 176, 3) := by decide +kernel
theorem dX5_obey_71 : decode cX5_obey 71 = .ok (.ifCond .ne 6, 3) := by decide +kernel
theorem dX5_obey_74 : decode cX5_obey 74 = .ok (.goto 17, 3) := by decide +kernel
theorem dX5_obey_77 : decode cX5_obey 77 = .ok (.iinc 1 1, 3) := by decide +kernel
theorem dX5_obey_80 : decode cX5_obey 80 = .ok (.iload 4, 2) := by decide +kernel
theorem dX5_obey_82 : decode cX5_obey 82 = .ok (.iconst 1, 1) := by decide +kernel
theorem dX5_obey_83 : decode cX5_obey 83 = .ok (.iadd, 1) := by decide +kernel
theorem dX5_obey_84 : decode cX5_obey 84 = .ok (.istore_n 2, 1) := by decide +kernel
theorem dX5_obey_85 : decode cX5_obey 85 = .ok (.iinc 3 1, 3) := by decide +kernel
theorem dX5_obey_88 : decode cX5_obey 88 = .ok (.goto (-51), 3) := by decide +kernel
theorem dX5_obey_91 : decode cX5_obey 91 = .ok (.aload_n 0, 1) := by decide +kernel
theorem dX5_obey_92 : decode cX5_obey 92 = .ok (.getfield 32, 3) := by decide +kernel
theorem dX5_obey_95 : decode cX5_obey 95 = .ok (.iconst 0, 1) := by decide +kernel
theorem dX5_obey_96 : decode cX5_obey 96 = .ok (.putfield 159, 3) := by decide +kernel
theorem dX5_obey_99 : decode cX5_obey 99 = .ok (.iload_n 1, 1) := by decide +kernel
theorem dX5_obey_100 : decode cX5_obey 100 = .ok (.ireturn, 1) := by decide +kernel
set_option maxRecDepth 100000 in
theorem ggX5_keep_X0_copyFrom : GoodIn wsX5_keep wsX0_copyFrom := goodIn_r _ [9, 10, 11, 12, 13, 14, 15, 16, 17, 18, 19, 20, 21, 22, 23, 24, 25, 26, 27, 28, 29, 30, 31, 32, 33, 34, 35, 36, 37, 44, 45, 46, 47, 48, 49, 50, 51, 52, 53, 54, 55, 56, 57, 58, 59, 60, 61] rfl (by decide +kernel)
set_option maxRecDepth 100000 in
theorem gX5_keep_X0_copyFrom : GoodIn wsX5_keep (wsV RX5 180 RX0 yX0_copyFrom wsX0_copyFrom) := goodIn_app (goodIn_r _ [5, 6, 7, 8] rfl (by decide +kernel)) ggX5_keep_X0_copyFrom
theorem dX5_keep_0 : decode cX5_keep 0 = .ok (.aload_n 0, 1) := by decide +kernel
theorem dX5_keep_1 : decode cX5_keep 1 = .ok (.getfield 19, 3) := by decide +kernel
theorem dX5_keep_4 : decode cX5_keep 4 = .ok (.aload_n 0, 1) := by decide +kernel
theorem dX5_keep_5 : decode cX5_keep 5 = .ok (.getfield 10, 3) := by decide +kernel
theorem dX5_keep_8 : decode cX5_keep 8 = .ok (.invokevirtual 180, 3) := by decide +kernel
theorem dX5_keep_11 : decode cX5_keep 11 = .ok (.aload_n 0, 1) := by decide +kernel
theorem dX5_keep_12 : decode cX5_keep 12 = .ok (.iconst 1, 1) := by decide +kernel
theorem dX5_keep_13 : decode cX5_keep 13 = .ok (.putfield 183, 3) := by decide +kernel
theorem dX5_keep_16 : decode cX5_keep 16 = .ok (.aload_n 0, 1) := by decide +kernel
theorem dX5_keep_17 : decode cX5_keep 17 = .ok (.getfield 10, 3) := by decide +kernel
theorem dX5_keep_20 : decode cX5_keep 20 = .ok (.getfield 186, 3) := by decide +kernel
theorem dX5_keep_23 : decode cX5_keep 23 = .ok (.ireturn, 1) := by decide +kernel
set_option maxRecDepth 100000 in
theorem ggX5_goBack_X3_save : GoodIn wsX5_goBack wsX3_save := goodIn_r _ [12, 13, 14, 15, 16, 17, 11, 18, 19, 20, 21, 22, 23, 24, 25, 26, 27, 28, 29, 30, 31, 32, 33, 34, 35, 36, 37, 38, 39, 40, 41, 42, 43, 44, 45, 46, 47, 48, 49, 50, 51, 64, 65, 59, 60, 61, 62, 63, 66, 67, 68, 69, 70, 71, 72, 73, 74, 75, 76, 77, 78] rfl (by decide +kernel)
set_option maxRecDepth 100000 in
theorem gX5_goBack_X3_save : GoodIn wsX5_goBack (wsV RX5 61 RX3 yX3_save wsX3_save) := goodIn_app (goodIn_r _ [8, 9, 10, 11] rfl (by decide +kernel)) ggX5_goBack_X3_save
set_option maxRecDepth 100000 in
theorem ggX5_goBack_X0_copyFrom : GoodIn wsX5_goBack wsX0_copyFrom := goodIn_r _ [23, 24, 25, 26, 27, 28, 29, 30, 31, 32, 33, 34, 35, 36, 37, 38, 39, 40, 41, 42, 43, 44, 45, 46, 47, 48, 49, 50, 51, 59, 60, 61, 62, 63, 66, 67, 68, 69, 70, 71, 72, 73, 74, 75, 76, 77, 78] rfl (by decide +kernel)
set_option maxRecDepth 100000 in
theorem gX5_goBack_X0_copyFrom : GoodIn wsX5_goBack (wsV RX5 180 RX0 yX0_copyFrom wsX0_copyFrom) := goodIn_app (goodIn_r _ [52, 20, 21, 22] rfl (by decide +kernel)) ggX5_goBack_X0_copyFrom
theorem dX5_goBack_0 : decode cX5_goBack 0 = .ok (.aload_n 0, 1) := by decide +kernel
theorem dX5_goBack_1 : decode cX5_goBack 1 = .ok (.getfield 183, 3) := by decide +kernel
theorem dX5_goBack_4 : decode cX5_goBack 4 = .ok (.ifCond .ne 13, 3) := by decide +kernel
theorem dX5_goBack_7 : decode cX5_goBack 7 = .ok (.new 54, 3) := by decide +kernel
theorem dX5_goBack_10 : decode cX5_goBack 10 = .ok (.dup, 1) := by decide +kernel
theorem dX5_goBack_11 : decode cX5_goBack 11 = .ok (.ldc 189, 2) := by decide +kernel
theorem dX5_goBack_13 : decode cX5_goBack 13 = .ok (.invokespecial 58, 3) := by decide +kernel
theorem dX5_goBack_16 : decode cX5_goBack 16 = .ok (.athrow, 1) := by decide +kernel
theorem dX5_goBack_17 : decode cX5_goBack 17 = .ok (.aload_n 0, 1) := by decide +kernel
theorem dX5_goBack_18 : decode cX5_goBack 18 = .ok (.getfield 25, 3) := by decide +kernel
theorem dX5_goBack_21 : decode cX5_goBack 21 = .ok (.aload_n 0, 1) := by decide +kernel
theorem dX5_goBack_22 : decode cX5_goBack 22 = .ok (.getfield 10, 3) := by decide +kernel
theorem dX5_goBack_25 : decode cX5_goBack 25 = .ok (.invokevirtual 61, 3) := by decide +kernel
theorem dX5_goBack_28 : decode cX5_goBack 28 = .ok (.aload_n 0, 1) := by decide +kernel
theorem dX5_goBack_29 : decode cX5_goBack 29 = .ok (.getfield 10, 3) := by decide +kernel
theorem dX5_goBack_32 : decode cX5_goBack 32 = .ok (.aload_n 0, 1) := by decide +kernel
theorem dX5_goBack_33 : decode cX5_goBack 33 = .ok (.getfield 19, 3) := by decide +kernel
theorem dX5_goBack_36 : decode cX5_goBack 36 = .ok (.invokevirtual 180, 3) := by decide +kernel
theorem dX5_goBack_39 : decode cX5_goBack 39 = .ok (.aload_n 0, 1) := by decide +kernel
theorem dX5_goBack_40 : decode cX5_goBack 40 = .ok (.getfield 10, 3) := by decide +kernel
theorem dX5_goBack_43 : decode cX5_goBack 43 = .ok (.getfield 186, 3) := by decide +kernel
theorem dX5_goBack_46 : decode cX5_goBack 46 = .ok (.ireturn, 1) := by decide +kernel
set_option maxRecDepth 100000 in
theorem ggX5_undo_X3_restore : GoodIn wsX5_undo wsX3_restore := goodIn_r _ [10, 11, 12, 13, 14, 15, 16, 17, 18, 19, 20, 21, 22, 23, 24, 25, 26, 27, 28, 29, 30, 31, 32, 33, 34, 35, 36, 37, 38, 39, 40, 41, 42, 43, 44, 45, 52, 53, 54, 55, 56, 57, 58, 59, 60, 61, 62, 63, 64, 65, 66, 67, 68, 69, 70, 71] rfl (by decide +kernel)
set_option maxRecDepth 100000 in
theorem gX5_undo_X3_restore : GoodIn wsX5_undo (wsV RX5 196 RX3 yX3_restore wsX3_restore) := goodIn_app (goodIn_r _ [6, 7, 8, 9] rfl (by decide +kernel)) ggX5_undo_X3_restore
theorem dX5_undo_0 : decode cX5_undo 0 = .ok (.aload_n 0, 1) := by decide +kernel
theorem dX5_undo_1 : decode cX5_undo 1 = .ok (.getfield 25, 3) := by decide +kernel
theorem dX5_undo_4 : decode cX5_undo 4 = .ok (.getfield 191, 3) := by decide +kernel
theorem dX5_undo_7 : decode cX5_undo 7 = .ok (.ifCond .ne 13, 3) := by decide +kernel
theorem dX5_undo_10 : decode cX5_undo 10 = .ok (.new 54, 3) := by decide +kernel
theorem dX5_undo_13 : decode cX5_undo 13 = .ok (.dup, 1) := by decide +kernel
theorem dX5_undo_14 : decode cX5_undo 14 = .ok (.ldc 194, 2) := by decide +kernel
theorem dX5_undo_16 : decode cX5_undo 16 = .ok (.invokespecial 58, 3) := by decide +kernel
theorem dX5_undo_19 : decode cX5_undo 19 = .ok (.athrow, 1) := by decide +kernel
theorem dX5_undo_20 : decode cX5_undo 20 = .ok (.aload_n 0, 1) := by decide +kernel
theorem dX5_undo_21 : decode cX5_undo 21 = .ok (.getfield 25, 3) := by decide +kernel
theorem dX5_undo_24 : decode cX5_undo 24 = .ok (.aload_n 0, 1) := by decide +kernel
theorem dX5_undo_25 : decode cX5_undo 25 = .ok (.getfield 10, 3) := by decide +kernel
theorem dX5_undo_28 : decode cX5_undo 28 = .ok (.invokevirtual 196, 3) := by decide +kernel
theorem dX5_undo_31 : decode cX5_undo 31 = .ok (.aload_n 0, 1) := by decide +kernel
theorem dX5_undo_32 : decode cX5_undo 32 = .ok (.getfield 25, 3) := by decide +kernel
theorem dX5_undo_35 : decode cX5_undo 35 = .ok (.getfield 191, 3) := by decide +kernel
theorem dX5_undo_38 : decode cX5_undo 38 = .ok (.ireturn, 1) := by decide +kernel
set_option maxRecDepth 100000 in
theorem ggX5_diesel_X5_needSet : GoodIn wsX5_diesel wsX5_needSet := goodIn_ca (goodIn_r _ [4, 5, 6, 7, 8, 3, 9] rfl (by decide +kernel)) (goodIn_sub (fun _ h => List.mem_cons_of_mem _ (List.mem_append_left _ (List.mem_append_right _ h))) (by decide +kernel))
set_option maxRecDepth 100000 in
theorem gX5_diesel_X5_needSet : GoodIn wsX5_diesel (va_wsS RX5 36 yX5_needSet wsX5_needSet) := goodIn_app (goodIn_r _ [1, 2, 3] rfl (by decide +kernel)) ggX5_diesel_X5_needSet
set_option maxRecDepth 100000 in
theorem ggX5_diesel_X5_needRange : GoodIn wsX5_diesel wsX5_needRange := goodIn_ca (goodIn_r _ [12, 13, 14] rfl (by decide +kernel)) (goodIn_sub (fun _ h => List.mem_cons_of_mem _ (List.mem_append_right _ h)) (by decide +kernel))
set_option maxRecDepth 100000 in
theorem gX5_diesel_X5_needRange : GoodIn wsX5_diesel (va_wsS RX5 40 yX5_needRange wsX5_needRange) := goodIn_app (goodIn_r _ [10, 11, 3] rfl (by decide +kernel)) ggX5_diesel_X5_needRange
set_option maxRecDepth 100000 in
theorem ggX5_diesel_X5_tellOfSet : GoodIn wsX5_diesel wsX5_tellOfSet := goodIn_r _ [18, 19, 20, 21, 22, 23, 24, 25, 26, 27, 28, 29, 30, 31, 32, 3, 33, 34, 35, 36, 37, 38, 39, 40, 41, 42, 43, 44, 45, 46, 47, 48, 49, 50, 51, 52, 53, 54, 55, 56, 57, 58, 59, 60, 61, 62, 63, 64, 65, 66, 67, 68, 69, 70, 71, 72, 73, 74, 75, 76, 77, 78, 79, 80, 81, 82, 83, 84, 85, 86, 87, 88, 89, 90, 91, 92, 93, 94, 95, 96, 97, 98, 99, 100, 101, 102, 103, 104, 105, 106, 107, 108, 109, 110, 111, 112, 113, 114, 115, 116, 117, 118, 119, 120] rfl (by decide +kernel)
set_option maxRecDepth 100000 in
theorem gX5_diesel_X5_tellOfSet : GoodIn wsX5_diesel (wsV RX5 199 RX5 yX5_tellOfSet wsX5_tellOfSet) := goodIn_app (goodIn_r _ [15, 16, 17, 3] rfl (by decide +kernel)) ggX5_diesel_X5_tellOfSet
theorem dX5_diesel_0 : decode cX5_diesel 0 = .ok (.iload_n 1, 1) := by decide +kernel
theorem dX5_diesel_1 : decode cX5_diesel 1 = .ok (.invokestatic 36, 3) := by decide +kernel
theorem dX5_diesel_4 : decode cX5_diesel 4 = .ok (.iload_n 2, 1) := by decide +kernel
theorem dX5_diesel_5 : decode cX5_diesel 5 = .ok (.iconst 0, 1) := by decide +kernel
theorem dX5_diesel_6 : decode cX5_diesel 6 = .ok (.bipush 12, 2) := by decide +kernel
theorem dX5_diesel_8 : decode cX5_diesel 8 = .ok (.invokestatic 40, 3) := by decide +kernel
theorem dX5_diesel_11 : decode cX5_diesel 11 = .ok (.aload_n 0, 1) := by decide +kernel
theorem dX5_diesel_12 : decode cX5_diesel 12 = .ok (.iload_n 1, 1) := by decide +kernel
theorem dX5_diesel_13 : decode cX5_diesel 13 = .ok (.iload_n 2, 1) := by decide +kernel
theorem dX5_diesel_14 : decode cX5_diesel 14 = .ok (.invokevirtual 199, 3) := by decide +kernel
theorem dX5_diesel_17 : decode cX5_diesel 17 = .ok (.ireturn, 1) := by decide +kernel
set_option maxRecDepth 100000 in
theorem ggX5_line_X5_needFeeder : GoodIn wsX5_line wsX5_needFeeder := goodIn_ca (goodIn_r _ [4, 5, 6, 7, 8, 3, 9] rfl (by decide +kernel)) (goodIn_sub (fun _ h => List.mem_cons_of_mem _ (List.mem_append_left _ (List.mem_append_right _ h))) (by decide +kernel))
set_option maxRecDepth 100000 in
theorem gX5_line_X5_needFeeder : GoodIn wsX5_line (va_wsS RX5 116 yX5_needFeeder wsX5_needFeeder) := goodIn_app (goodIn_r _ [1, 2, 3] rfl (by decide +kernel)) ggX5_line_X5_needFeeder
set_option maxRecDepth 100000 in
theorem ggX5_line_X5_needRange : GoodIn wsX5_line wsX5_needRange := goodIn_ca (goodIn_r _ [12, 13, 14] rfl (by decide +kernel)) (goodIn_sub (fun _ h => List.mem_cons_of_mem _ (List.mem_append_right _ h)) (by decide +kernel))
set_option maxRecDepth 100000 in
theorem gX5_line_X5_needRange : GoodIn wsX5_line (va_wsS RX5 40 yX5_needRange wsX5_needRange) := goodIn_app (goodIn_r _ [10, 11, 3] rfl (by decide +kernel)) ggX5_line_X5_needRange
set_option maxRecDepth 100000 in
theorem ggX5_line_X5_tellOfFeeder : GoodIn wsX5_line wsX5_tellOfFeeder := goodIn_r _ [18, 19, 20, 21, 22, 23, 24, 25, 3, 26, 27, 28, 29, 30, 31, 32, 33, 34, 35, 36, 37, 38, 39, 40] rfl (by decide +kernel)
set_option maxRecDepth 100000 in
theorem gX5_line_X5_tellOfFeeder : GoodIn wsX5_line (wsV RX5 203 RX5 yX5_tellOfFeeder wsX5_tellOfFeeder) := goodIn_app (goodIn_r _ [15, 16, 17, 3] rfl (by decide +kernel)) ggX5_line_X5_tellOfFeeder
theorem dX5_line_0 : decode cX5_line 0 = .ok (.iload_n 1, 1) := by decide +kernel
theorem dX5_line_1 : decode cX5_line 1 = .ok (.invokestatic 116, 3) := by decide +kernel
theorem dX5_line_4 : decode cX5_line 4 = .ok (.iload_n 2, 1) := by decide +kernel
theorem dX5_line_5 : decode cX5_line 5 = .ok (.iconst 0, 1) := by decide +kernel
theorem dX5_line_6 : decode cX5_line 6 = .ok (.iconst 2, 1) := by decide +kernel
theorem dX5_line_7 : decode cX5_line 7 = .ok (.invokestatic 40, 3) := by decide +kernel
theorem dX5_line_10 : decode cX5_line 10 = .ok (.aload_n 0, 1) := by decide +kernel
theorem dX5_line_11 : decode cX5_line 11 = .ok (.iload_n 1, 1) := by decide +kernel
theorem dX5_line_12 : decode cX5_line 12 = .ok (.iload_n 2, 1) := by decide +kernel
theorem dX5_line_13 : decode cX5_line 13 = .ok (.invokevirtual 203, 3) := by decide +kernel
theorem dX5_line_16 : decode cX5_line 16 = .ok (.ireturn, 1) := by decide +kernel
set_option maxRecDepth 100000 in
theorem ggX5_count_X5_needRange : GoodIn wsX5_count wsX5_needRange := goodIn_ca (goodIn_r _ [4, 5, 6] rfl (by decide +kernel)) (goodIn_sub (fun _ h => List.mem_cons_of_mem _ (List.mem_append_right _ h)) (by decide +kernel))
set_option maxRecDepth 100000 in
theorem gX5_count_X5_needRange : GoodIn wsX5_count (va_wsS RX5 40 yX5_needRange wsX5_needRange) := goodIn_app (goodIn_r _ [1, 2, 3] rfl (by decide +kernel)) ggX5_count_X5_needRange
set_option maxRecDepth 100000 in
theorem ggX5_count_X5_tellCount : GoodIn wsX5_count wsX5_tellCount := goodIn_r _ [10, 11, 12, 13, 14, 15, 16, 17, 18, 19, 20, 21, 22, 23, 24, 25, 26, 27, 28, 29, 30, 31, 32, 33, 34, 35, 36, 37, 38, 39, 40, 41, 42, 43, 44, 45, 46, 47, 48, 49, 50, 51, 52, 53, 54, 55, 56, 57, 58, 59, 60, 61, 62, 63, 64, 65, 66, 67, 68, 69, 70, 71, 72, 73, 74, 75, 76, 77, 3, 78, 79, 80, 81, 82, 83, 84, 85, 86, 87, 88, 89, 90, 91, 92, 93, 94, 95, 96, 97, 98, 99, 100, 101, 102, 103, 104, 105, 106, 107, 108, 109, 110, 111, 112, 113, 114, 115, 116, 117, 118] rfl (by decide +kernel)
set_option maxRecDepth 100000 in
theorem gX5_count_X5_tellCount : GoodIn wsX5_count (wsV RX5 206 RX5 yX5_tellCount wsX5_tellCount) := goodIn_app (goodIn_r _ [7, 8, 9, 3] rfl (by decide +kernel)) ggX5_count_X5_tellCount
theorem dX5_count_0 : decode cX5_count 0 = .ok (.iload_n 1, 1) := by decide +kernel
theorem dX5_count_1 : decode cX5_count 1 = .ok (.iconst 0, 1) := by decide +kernel
theorem dX5_count_2 : decode cX5_count 2 = .ok (.bipush 11, 2) := by decide +kernel
theorem dX5_count_4 : decode cX5_count 4 = .ok (.invokestatic 40, 3) := by decide +kernel
theorem dX5_count_7 : decode cX5_count 7 = .ok (.aload_n 0, 1) := by decide +kernel
theorem dX5_count_8 : decode cX5_count 8 = .ok (.iload_n 1, 1) := by decide +kernel
theorem dX5_count_9 : decode cX5_count 9 = .ok (.invokevirtual 206, 3) := by decide +kernel
theorem dX5_count_12 : decode cX5_count 12 = .ok (.ireturn, 1) := by decide +kernel
set_option maxRecDepth 100000 in
theorem ggX5_setting_X5_needSetting : GoodIn wsX5_setting wsX5_needSetting := goodIn_ca (goodIn_r _ [6, 7, 8] rfl (by decide +kernel)) (goodIn_sub (fun _ h => List.mem_cons_of_mem _ (List.mem_append_right _ h)) (by decide +kernel))
set_option maxRecDepth 100000 in
theorem gX5_setting_X5_needSetting : GoodIn wsX5_setting (va_wsS RX5 138 yX5_needSetting wsX5_needSetting) := goodIn_app (goodIn_r _ [3, 4, 5] rfl (by decide +kernel)) ggX5_setting_X5_needSetting
theorem dX5_setting_0 : decode cX5_setting 0 = .ok (.iload_n 1, 1) := by decide +kernel
theorem dX5_setting_1 : decode cX5_setting 1 = .ok (.invokestatic 138, 3) := by decide +kernel
theorem dX5_setting_4 : decode cX5_setting 4 = .ok (.aload_n 0, 1) := by decide +kernel
theorem dX5_setting_5 : decode cX5_setting 5 = .ok (.getfield 10, 3) := by decide +kernel
theorem dX5_setting_8 : decode cX5_setting 8 = .ok (.getfield 148, 3) := by decide +kernel
theorem dX5_setting_11 : decode cX5_setting 11 = .ok (.iload_n 1, 1) := by decide +kernel
theorem dX5_setting_12 : decode cX5_setting 12 = .ok (.iaload, 1) := by decide +kernel
theorem dX5_setting_13 : decode cX5_setting 13 = .ok (.ireturn, 1) := by decide +kernel
set_option maxRecDepth 100000 in
theorem ggX5_ifSpeed_X5_needSet : GoodIn wsX5_ifSpeed wsX5_needSet := goodIn_ca (goodIn_r _ [4, 5, 6, 7, 8, 3, 9] rfl (by decide +kernel)) (goodIn_sub (fun _ h => List.mem_cons_of_mem _ (List.mem_append_left _ (List.mem_append_right _ h))) (by decide +kernel))
set_option maxRecDepth 100000 in
theorem gX5_ifSpeed_X5_needSet : GoodIn wsX5_ifSpeed (va_wsS RX5 36 yX5_needSet wsX5_needSet) := goodIn_app (goodIn_r _ [1, 2, 3] rfl (by decide +kernel)) ggX5_ifSpeed_X5_needSet
set_option maxRecDepth 100000 in
theorem ggX5_ifSpeed_X5_needRange : GoodIn wsX5_ifSpeed wsX5_needRange := goodIn_ca (goodIn_r _ [12, 13, 14] rfl (by decide +kernel)) (goodIn_sub (fun _ h => List.mem_cons_of_mem _ (List.mem_append_right _ h)) (by decide +kernel))
set_option maxRecDepth 100000 in
theorem gX5_ifSpeed_X5_needRange : GoodIn wsX5_ifSpeed (va_wsS RX5 40 yX5_needRange wsX5_needRange) := goodIn_app (goodIn_r _ [10, 11, 3] rfl (by decide +kernel)) ggX5_ifSpeed_X5_needRange
set_option maxRecDepth 100000 in
theorem ggX5_ifSpeed_X5_tellIfSpeed : GoodIn wsX5_ifSpeed wsX5_tellIfSpeed := goodIn_r _ [18, 19, 20, 21, 22, 23, 24, 25, 26, 27, 28, 29, 30, 31, 32, 33, 34, 35, 36, 37, 38, 39, 40, 41, 42, 43, 44, 45, 46, 47, 48, 49, 50, 51, 52, 53, 54, 55, 56, 57, 58, 59, 60, 61, 62, 63, 64, 65, 66, 67, 68, 69, 70, 71, 72, 73, 74, 75, 76, 77, 78, 79, 80, 81, 82, 83, 84, 85, 86, 87, 88, 89, 90, 91, 92, 93, 94, 95, 96, 97, 98, 99, 100, 101, 102, 103, 104, 105, 106, 107, 108, 109, 110, 111, 112, 113, 114, 115, 116, 117, 118] rfl (by decide +kernel)
set_option maxRecDepth 100000 in
theorem gX5_ifSpeed_X5_tellIfSpeed : GoodIn wsX5_ifSpeed (wsV RX5 209 RX5 yX5_tellIfSpeed wsX5_tellIfSpeed) := goodIn_app (goodIn_r _ [15, 16, 17, 3] rfl (by decide +kernel)) ggX5_ifSpeed_X5_tellIfSpeed
theorem dX5_ifSpeed_0 : decode cX5_ifSpeed 0 = .ok (.iload_n 1, 1) := by decide +kernel
theorem dX5_ifSpeed_1 : decode cX5_ifSpeed 1 = .ok (.invokestatic 36, 3) := by decide +kernel
theorem dX5_ifSpeed_4 : decode cX5_ifSpeed 4 = .ok (.iload_n 2, 1) := by decide +kernel
theorem dX5_ifSpeed_5 : decode cX5_ifSpeed 5 = .ok (.sipush 4700, 3) := by decide +kernel
theorem dX5_ifSpeed_8 : decode cX5_ifSpeed 8 = .ok (.sipush 5300, 3) := by decide +kernel
theorem dX5_ifSpeed_11 : decode cX5_ifSpeed 11 = .ok (.invokestatic 40, 3) := by decide +kernel
theorem dX5_ifSpeed_14 : decode cX5_ifSpeed 14 = .ok (.iload_n 3, 1) := by decide +kernel
theorem dX5_ifSpeed_15 : decode cX5_ifSpeed 15 = .ok (.iconst 0, 1) := by decide +kernel
theorem dX5_ifSpeed_16 : decode cX5_ifSpeed 16 = .ok (.iconst 2, 1) := by decide +kernel
theorem dX5_ifSpeed_17 : decode cX5_ifSpeed 17 = .ok (.invokestatic 40, 3) := by decide +kernel
theorem dX5_ifSpeed_20 : decode cX5_ifSpeed 20 = .ok (.aload_n 0, 1) := by decide +kernel
theorem dX5_ifSpeed_21 : decode cX5_ifSpeed 21 = .ok (.iload_n 1, 1) := by decide +kernel
theorem dX5_ifSpeed_22 : decode cX5_ifSpeed 22 = .ok (.iload_n 2, 1) := by decide +kernel
theorem dX5_ifSpeed_23 : decode cX5_ifSpeed 23 = .ok (.iload_n 3, 1) := by decide +kernel
theorem dX5_ifSpeed_24 : decode cX5_ifSpeed 24 = .ok (.invokevirtual 209, 3) := by decide +kernel
theorem dX5_ifSpeed_27 : decode cX5_ifSpeed 27 = .ok (.ireturn, 1) := by decide +kernel
set_option maxRecDepth 100000 in
theorem ggX5_closeIn_X5_needSet : GoodIn wsX5_closeIn wsX5_needSet := goodIn_ca (goodIn_r _ [4, 5, 6, 7, 8, 3, 9] rfl (by decide +kernel)) (goodIn_sub (fun _ h => List.mem_cons_of_mem _ (List.mem_append_right _ h)) (by decide +kernel))
set_option maxRecDepth 100000 in
theorem gX5_closeIn_X5_needSet : GoodIn wsX5_closeIn (va_wsS RX5 36 yX5_needSet wsX5_needSet) := goodIn_app (goodIn_r _ [1, 2, 3] rfl (by decide +kernel)) ggX5_closeIn_X5_needSet
set_option maxRecDepth 100000 in
theorem ggX5_closeIn_X5_ticksUntilClosing : GoodIn wsX5_closeIn wsX5_ticksUntilClosing := goodIn_r _ [13, 14, 15, 16, 17, 18, 19, 20, 21, 22, 23, 24, 25, 26, 27, 28, 29, 30, 31, 32, 33, 34, 35, 36, 37, 38, 39, 40, 41, 42, 43, 44, 45, 46, 47, 48, 49, 50, 51, 52, 53, 54, 55, 56, 57, 58, 59, 60, 61, 62, 63, 64, 65, 66, 67, 68, 69, 70, 71, 72, 73, 74, 75, 76, 77, 78, 79, 80, 81, 82, 83, 84, 85, 86, 87, 88, 89, 90, 91, 92, 93, 94, 95, 96, 97, 98, 99, 100, 101, 102, 103, 104, 105, 106, 107, 108, 109, 110, 111, 112, 113, 114, 115, 116, 117, 118, 119, 120, 121, 122, 123, 124, 125, 126, 127, 128, 129, 130, 131, 132, 133, 134, 135, 136, 137, 138, 139, 140, 141, 142, 143, 144, 145, 146, 147, 148, 149, 150, 151, 152, 153, 154, 155, 156, 157, 158, 159, 160, 161] rfl (by decide +kernel)
set_option maxRecDepth 100000 in
theorem gX5_closeIn_X5_ticksUntilClosing : GoodIn wsX5_closeIn (wsV RX5 213 RX5 yX5_ticksUntilClosing wsX5_ticksUntilClosing) := goodIn_app (goodIn_r _ [10, 11, 12, 3] rfl (by decide +kernel)) ggX5_closeIn_X5_ticksUntilClosing
theorem dX5_closeIn_0 : decode cX5_closeIn 0 = .ok (.iload_n 1, 1) := by decide +kernel
theorem dX5_closeIn_1 : decode cX5_closeIn 1 = .ok (.invokestatic 36, 3) := by decide +kernel
theorem dX5_closeIn_4 : decode cX5_closeIn 4 = .ok (.aload_n 0, 1) := by decide +kernel
theorem dX5_closeIn_5 : decode cX5_closeIn 5 = .ok (.iload_n 1, 1) := by decide +kernel
theorem dX5_closeIn_6 : decode cX5_closeIn 6 = .ok (.invokevirtual 213, 3) := by decide +kernel
theorem dX5_closeIn_9 : decode cX5_closeIn 9 = .ok (.ireturn, 1) := by decide +kernel
set_option maxRecDepth 100000 in
theorem ggX5_fairSpeed_X5_needSet : GoodIn wsX5_fairSpeed wsX5_needSet := goodIn_ca (goodIn_r _ [4, 5, 6, 7, 8, 3, 9] rfl (by decide +kernel)) (goodIn_sub (fun _ h => List.mem_cons_of_mem _ (List.mem_append_right _ h)) (by decide +kernel))
set_option maxRecDepth 100000 in
theorem gX5_fairSpeed_X5_needSet : GoodIn wsX5_fairSpeed (va_wsS RX5 36 yX5_needSet wsX5_needSet) := goodIn_app (goodIn_r _ [1, 2, 3] rfl (by decide +kernel)) ggX5_fairSpeed_X5_needSet
set_option maxRecDepth 100000 in
theorem ggX5_fairSpeed_X5_speedForFairShare : GoodIn wsX5_fairSpeed wsX5_speedForFairShare := goodIn_r _ [13, 14, 15, 16, 17, 18, 19, 20, 21, 22, 23, 24, 25, 26, 27, 28, 29, 30, 31, 32, 33, 34, 35, 36, 37, 38, 39, 40, 41, 42, 43, 44, 45, 46, 47, 48, 49, 50, 51, 52, 53, 54, 55, 56, 57, 58, 59, 60, 61, 62, 63, 64, 65, 66, 67, 68, 69, 70, 71, 72, 73, 74, 75, 76, 77, 78, 79, 80, 81, 82, 83, 84, 85, 86, 87, 88, 89, 90, 91, 92, 93, 94, 95, 96, 97, 98, 99, 100, 101, 102, 103, 104, 105, 106, 107, 108, 109, 110, 111, 112, 113, 114, 115, 116, 117, 118, 119, 120] rfl (by decide +kernel)
set_option maxRecDepth 100000 in
theorem gX5_fairSpeed_X5_speedForFairShare : GoodIn wsX5_fairSpeed (wsV RX5 216 RX5 yX5_speedForFairShare wsX5_speedForFairShare) := goodIn_app (goodIn_r _ [10, 11, 12, 3] rfl (by decide +kernel)) ggX5_fairSpeed_X5_speedForFairShare
theorem dX5_fairSpeed_0 : decode cX5_fairSpeed 0 = .ok (.iload_n 1, 1) := by decide +kernel
theorem dX5_fairSpeed_1 : decode cX5_fairSpeed 1 = .ok (.invokestatic 36, 3) := by decide +kernel
theorem dX5_fairSpeed_4 : decode cX5_fairSpeed 4 = .ok (.aload_n 0, 1) := by decide +kernel
theorem dX5_fairSpeed_5 : decode cX5_fairSpeed 5 = .ok (.iload_n 1, 1) := by decide +kernel
theorem dX5_fairSpeed_6 : decode cX5_fairSpeed 6 = .ok (.invokevirtual 216, 3) := by decide +kernel
theorem dX5_fairSpeed_9 : decode cX5_fairSpeed 9 = .ok (.ireturn, 1) := by decide +kernel
set_option maxRecDepth 100000 in
theorem ggX5_nextTrip_X0_copyFrom : GoodIn wsX5_nextTrip wsX0_copyFrom := goodIn_r _ [7, 8, 9, 10, 11, 12, 13, 14, 15, 16, 17, 18, 19, 20, 21, 22, 23, 24, 25, 26, 27, 28, 29, 30, 31, 32, 33, 34, 35, 113, 114, 115, 116, 117, 118, 119, 120, 121, 122, 123, 124, 125, 126, 127, 128, 129, 130] rfl (by decide +kernel)
set_option maxRecDepth 100000 in
theorem gX5_nextTrip_X0_copyFrom : GoodIn wsX5_nextTrip (wsV RX5 180 RX0 yX0_copyFrom wsX0_copyFrom) := goodIn_app (goodIn_r _ [3, 4, 5, 6] rfl (by decide +kernel)) ggX5_nextTrip_X0_copyFrom
set_option maxRecDepth 100000 in
theorem ggX5_nextTrip_X0_tick : GoodIn wsX5_nextTrip wsX0_tick := goodIn_r _ [39, 12, 8, 11, 40, 41, 42, 6, 43, 44, 45, 46, 47, 48, 49, 50, 51, 52, 9, 53, 54, 55, 56, 57, 58, 59, 60, 61, 16, 62, 22, 19, 20, 18, 63, 64, 65, 66, 67, 68, 69, 70, 71, 72, 73, 74, 75, 76, 77, 78, 79, 80, 81, 82, 26, 24, 25, 21, 23, 83, 84, 85, 86, 87, 88, 89, 90, 91, 92, 93, 94, 95, 96, 10, 97, 98, 99, 100, 101, 102, 103, 104, 105, 106, 113, 114, 115, 116, 117, 118, 119, 120, 121, 122, 123, 124, 125, 126, 127, 128, 129, 130] rfl (by decide +kernel)
set_option maxRecDepth 100000 in
theorem gX5_nextTrip_X0_tick : GoodIn wsX5_nextTrip (wsV RX5 219 RX0 yX0_tick wsX0_tick) := goodIn_app (goodIn_r _ [36, 37, 38, 6] rfl (by decide +kernel)) ggX5_nextTrip_X0_tick
theorem dX5_nextTrip_0 : decode cX5_nextTrip 0 = .ok (.aload_n 0, 1) := by decide +kernel
theorem dX5_nextTrip_1 : decode cX5_nextTrip 1 = .ok (.getfield 16, 3) := by decide +kernel
theorem dX5_nextTrip_4 : decode cX5_nextTrip 4 = .ok (.aload_n 0, 1) := by decide +kernel
theorem dX5_nextTrip_5 : decode cX5_nextTrip 5 = .ok (.getfield 10, 3) := by decide +kernel
theorem dX5_nextTrip_8 : decode cX5_nextTrip 8 = .ok (.invokevirtual 180, 3) := by decide +kernel
theorem dX5_nextTrip_11 : decode cX5_nextTrip 11 = .ok (.iconst 1, 1) := by decide +kernel
theorem dX5_nextTrip_12 : decode cX5_nextTrip 12 = .ok (.istore_n 1, 1) := by decide +kernel
theorem dX5_nextTrip_13 : decode cX5_nextTrip 13 = .ok (.iload_n 1, 1) := by decide +kernel
theorem dX5_nextTrip_14 : decode cX5_nextTrip 14 = .ok (.bipush 100, 2) := by decide +kernel
theorem dX5_nextTrip_16 : decode cX5_nextTrip 16 = .ok (.if_icmp .gt 21, 3) := by decide +kernel
theorem dX5_nextTrip_19 : decode cX5_nextTrip 19 = .ok (.aload_n 0, 1) := by decide +kernel
theorem dX5_nextTrip_20 : decode cX5_nextTrip 20 = .ok (.getfield 16, 3) := by decide +kernel
theorem dX5_nextTrip_23 : decode cX5_nextTrip 23 = .ok (.invokevirtual 219, 3) := by decide +kernel
theorem dX5_nextTrip_26 : decode cX5_nextTrip 26 = .ok (.ifCond .le 5, 3) := by decide +kernel
theorem dX5_nextTrip_29 : decode cX5_nextTrip 29 = .ok (.iload_n 1, 1) := by decide +kernel
theorem dX5_nextTrip_30 : decode cX5_nextTrip 30 = .ok (.ireturn, 1) := by decide +kernel
theorem dX5_nextTrip_31 : decode cX5_nextTrip 31 = .ok (.iinc 1 1, 3) := by decide +kernel
theorem dX5_nextTrip_34 : decode cX5_nextTrip 34 = .ok (.goto (-21), 3) := by decide +kernel
theorem dX5_nextTrip_37 : decode cX5_nextTrip 37 = .ok (.iconst (-1), 1) := by decide +kernel
theorem dX5_nextTrip_38 : decode cX5_nextTrip 38 = .ok (.ireturn, 1) := by decide +kernel
set_option maxRecDepth 100000 in
theorem ggX5_loadShare_X0_ratingsClosed : GoodIn wsX5_loadShare wsX0_ratingsClosed := goodIn_r _ [6, 7, 8, 9, 27, 28, 29, 30, 31, 32, 33, 34, 35, 36, 37, 38, 39, 40, 41] rfl (by decide +kernel)
set_option maxRecDepth 100000 in
theorem gX5_loadShare_X0_ratingsClosed : GoodIn wsX5_loadShare (wsV RX5 222 RX0 yX0_ratingsClosed wsX0_ratingsClosed) := goodIn_app (goodIn_r _ [2, 3, 4, 5] rfl (by decide +kernel)) ggX5_loadShare_X0_ratingsClosed
set_option maxRecDepth 100000 in
theorem ggX5_loadShare_X0_demand : GoodIn wsX5_loadShare wsX0_demand := goodIn_r _ [13, 14, 15, 16, 17, 18, 19, 5, 20, 7, 8, 27, 28, 29, 30, 31, 42, 43, 44, 32, 33, 34, 35, 36, 37, 38, 39, 40, 41] rfl (by decide +kernel)
set_option maxRecDepth 100000 in
theorem gX5_loadShare_X0_demand : GoodIn wsX5_loadShare (wsV RX5 225 RX0 yX0_demand wsX0_demand) := goodIn_app (goodIn_r _ [10, 11, 12, 5] rfl (by decide +kernel)) ggX5_loadShare_X0_demand
theorem dX5_loadShare_0 : decode cX5_loadShare 0 = .ok (.aload_n 0, 1) := by decide +kernel
theorem dX5_loadShare_1 : decode cX5_loadShare 1 = .ok (.getfield 10, 3) := by decide +kernel
theorem dX5_loadShare_4 : decode cX5_loadShare 4 = .ok (.invokevirtual 222, 3) := by decide +kernel
theorem dX5_loadShare_7 : decode cX5_loadShare 7 = .ok (.istore_n 1, 1) := by decide +kernel
theorem dX5_loadShare_8 : decode cX5_loadShare 8 = .ok (.iload_n 1, 1) := by decide +kernel
theorem dX5_loadShare_9 : decode cX5_loadShare 9 = .ok (.ifCond .ne 5, 3) := by decide +kernel
theorem dX5_loadShare_12 : decode cX5_loadShare 12 = .ok (.dconst 0, 1) := by decide +kernel
theorem dX5_loadShare_13 : decode cX5_loadShare 13 = .ok (.dreturn, 1) := by decide +kernel
theorem dX5_loadShare_14 : decode cX5_loadShare 14 = .ok (.aload_n 0, 1) := by decide +kernel
theorem dX5_loadShare_15 : decode cX5_loadShare 15 = .ok (.getfield 10, 3) := by decide +kernel
theorem dX5_loadShare_18 : decode cX5_loadShare 18 = .ok (.invokevirtual 225, 3) := by decide +kernel
theorem dX5_loadShare_21 : decode cX5_loadShare 21 = .ok (.i2d, 1) := by decide +kernel
theorem dX5_loadShare_22 : decode cX5_loadShare 22 = .ok (.iload_n 1, 1) := by decide +kernel
theorem dX5_loadShare_23 : decode cX5_loadShare 23 = .ok (.i2d, 1) := by decide +kernel
theorem dX5_loadShare_24 : decode cX5_loadShare 24 = .ok (.ddiv, 1) := by decide +kernel
theorem dX5_loadShare_25 : decode cX5_loadShare 25 = .ok (.dreturn, 1) := by decide +kernel
theorem dX5_meanPower_0 : decode cX5_meanPower 0 = .ok (.aload_n 0, 1) := by decide +kernel
theorem dX5_meanPower_1 : decode cX5_meanPower 1 = .ok (.getfield 10, 3) := by decide +kernel
theorem dX5_meanPower_4 : decode cX5_meanPower 4 = .ok (.getfield 186, 3) := by decide +kernel
theorem dX5_meanPower_7 : decode cX5_meanPower 7 = .ok (.ifCond .ne 5, 3) := by decide +kernel
theorem dX5_meanPower_10 : decode cX5_meanPower 10 = .ok (.fconst 0, 1) := by decide +kernel
theorem dX5_meanPower_11 : decode cX5_meanPower 11 = .ok (.freturn, 1) := by decide +kernel
theorem dX5_meanPower_12 : decode cX5_meanPower 12 = .ok (.aload_n 0, 1) := by decide +kernel
theorem dX5_meanPower_13 : decode cX5_meanPower 13 = .ok (.getfield 10, 3) := by decide +kernel
theorem dX5_meanPower_16 : decode cX5_meanPower 16 = .ok (.getfield 228, 3) := by decide +kernel
theorem dX5_meanPower_19 : decode cX5_meanPower 19 = .ok (.i2f, 1) := by decide +kernel
theorem dX5_meanPower_20 : decode cX5_meanPower 20 = .ok (.aload_n 0, 1) := by decide +kernel
theorem dX5_meanPower_21 : decode cX5_meanPower 21 = .ok (.getfield 10, 3) := by decide +kernel
theorem dX5_meanPower_24 : decode cX5_meanPower 24 = .ok (.getfield 186, 3) := by decide +kernel
theorem dX5_meanPower_27 : decode cX5_meanPower 27 = .ok (.i2f, 1) := by decide +kernel
theorem dX5_meanPower_28 : decode cX5_meanPower 28 = .ok (.fdiv, 1) := by decide +kernel
theorem dX5_meanPower_29 : decode cX5_meanPower 29 = .ok (.freturn, 1) := by decide +kernel
set_option maxRecDepth 100000 in
theorem ggX5_digest_X5_tellCount : GoodIn wsX5_digest wsX5_tellCount := goodIn_r _ [11, 2, 12, 13, 14, 15, 16, 17, 18, 19, 20, 21, 22, 23, 24, 25, 26, 27, 28, 29, 30, 31, 32, 33, 34, 35, 36, 37, 38, 39, 40, 41, 42, 43, 44, 45, 46, 47, 48, 49, 50, 51, 52, 53, 54, 55, 56, 57, 58, 59, 60, 61, 62, 63, 64, 65, 66, 67, 68, 69, 70, 71, 72, 73, 74, 75, 76, 77, 10, 78, 79, 80, 81, 82, 83, 84, 85, 86, 87, 88, 89, 90, 91, 92, 246, 247, 248, 249, 250, 251, 252, 253, 254, 255, 256, 259, 260, 261, 262, 263, 264, 265, 266, 267, 268, 269, 270, 271, 272, 273] rfl (by decide +kernel)
set_option maxRecDepth 100000 in
theorem gX5_digest_X5_tellCount : GoodIn wsX5_digest (wsV RX5 206 RX5 yX5_tellCount wsX5_tellCount) := goodIn_app (goodIn_r _ [7, 8, 9, 10] rfl (by decide +kernel)) ggX5_digest_X5_tellCount
set_option maxRecDepth 100000 in
theorem ggX5_digest_X5_mixed : GoodIn wsX5_digest wsX5_mixed := goodIn_r _ [95, 96] rfl (by decide +kernel)
set_option maxRecDepth 100000 in
theorem gX5_digest_X5_mixed : GoodIn wsX5_digest (va_wsS RX5 233 yX5_mixed wsX5_mixed) := goodIn_app (goodIn_r _ [93, 94, 10] rfl (by decide +kernel)) ggX5_digest_X5_mixed
set_option maxRecDepth 100000 in
theorem ggX5_digest_X5_mixedWithSet : GoodIn wsX5_digest wsX5_mixedWithSet := goodIn_r _ [100, 101, 102, 103, 10, 104, 2, 105, 106, 107, 108, 109, 110, 111, 112, 113, 114, 115, 116, 77, 78, 47, 48, 49, 19, 50, 21, 22, 23, 24, 25, 26, 27, 28, 29, 30, 31, 32, 33, 34, 35, 36, 37, 38, 39, 40, 41, 42, 43, 44, 45, 46, 117, 57, 58, 59, 60, 61, 62, 63, 64, 65, 66, 67, 118, 119, 120, 121, 122, 123, 124, 125, 126, 127, 128, 129, 76, 130, 131, 132, 133, 134, 135, 136, 93, 94, 95, 96, 137, 138, 139, 140, 141, 142, 143, 144, 145, 146, 147, 148, 149, 150, 151, 152, 153, 154, 155, 156, 157, 158, 159, 160, 161, 162, 163, 164, 68, 69, 70, 71, 165, 166, 167, 168, 169, 170, 171, 172, 173, 56, 174, 175, 176, 177, 178, 179, 180, 181, 182, 183, 184, 185, 92, 186, 187, 188, 189, 190, 191, 87, 192, 193, 194, 195, 196, 197, 198, 199, 200, 201, 202, 203, 204, 205, 206, 207, 208, 209, 51, 246, 247, 248, 249, 250, 251, 252, 253, 254, 255, 256, 261, 262, 263, 264, 265, 266, 267, 268, 269, 270, 271, 272, 273] rfl (by decide +kernel)
set_option maxRecDepth 100000 in
theorem gX5_digest_X5_mixedWithSet : GoodIn wsX5_digest (wsV RX5 237 RX5 yX5_mixedWithSet wsX5_mixedWithSet) := goodIn_app (goodIn_r _ [97, 98, 99, 10] rfl (by decide +kernel)) ggX5_digest_X5_mixedWithSet
set_option maxRecDepth 100000 in
theorem ggX5_digest_X5_tellOfFeeder : GoodIn wsX5_digest wsX5_tellOfFeeder := goodIn_r _ [213, 2, 214, 215, 216, 217, 116, 77, 10, 78, 246, 247, 248, 249, 250, 251, 252, 253, 254, 255, 256, 271, 272, 273] rfl (by decide +kernel)
set_option maxRecDepth 100000 in
theorem gX5_digest_X5_tellOfFeeder : GoodIn wsX5_digest (wsV RX5 203 RX5 yX5_tellOfFeeder wsX5_tellOfFeeder) := goodIn_app (goodIn_r _ [210, 211, 212, 10] rfl (by decide +kernel)) ggX5_digest_X5_tellOfFeeder
set_option maxRecDepth 100000 in
theorem ggX5_digest_X5_nextTrip : GoodIn wsX5_digest wsX5_nextTrip := goodIn_r _ [221, 141, 2, 142, 143, 144, 19, 145, 25, 31, 134, 146, 147, 148, 149, 150, 41, 151, 46, 44, 45, 152, 43, 122, 153, 154, 155, 156, 157, 158, 159, 160, 161, 162, 163, 164, 169, 170, 171, 172, 135, 48, 49, 50, 21, 22, 23, 24, 26, 27, 28, 29, 30, 32, 33, 34, 35, 36, 37, 38, 39, 40, 42, 173, 69, 70, 71, 60, 61, 62, 63, 56, 57, 58, 59, 64, 65, 66, 67, 174, 175, 176, 177, 178, 179, 180, 181, 182, 183, 184, 185, 92, 186, 187, 188, 189, 190, 191, 87, 192, 193, 194, 195, 196, 197, 198, 199, 246, 247, 248, 249, 250, 251, 252, 253, 254, 255, 256, 261, 262, 263, 264, 265, 266, 267, 268, 269, 270, 271, 272, 273] rfl (by decide +kernel)
set_option maxRecDepth 100000 in
theorem gX5_digest_X5_nextTrip : GoodIn wsX5_digest (wsV RX5 241 RX5 yX5_nextTrip wsX5_nextTrip) := goodIn_app (goodIn_r _ [218, 219, 220, 10] rfl (by decide +kernel)) ggX5_digest_X5_nextTrip
set_option maxRecDepth 100000 in
theorem ggX5_digest_X5_loadShare : GoodIn wsX5_digest wsX5_loadShare := goodIn_r _ [225, 2, 205, 206, 207, 19, 208, 25, 26, 209, 51, 28, 29, 30, 31, 32, 33, 21, 22, 23, 24, 246, 247, 248, 249, 250, 251, 252, 253, 254, 255, 256, 261, 262, 263, 264, 265, 266, 267, 268, 269, 270, 271, 272, 273] rfl (by decide +kernel)
set_option maxRecDepth 100000 in
theorem gX5_digest_X5_loadShare : GoodIn wsX5_digest (wsV RX5 244 RX5 yX5_loadShare wsX5_loadShare) := goodIn_app (goodIn_r _ [222, 223, 224, 10] rfl (by decide +kernel)) ggX5_digest_X5_loadShare
set_option maxRecDepth 100000 in
theorem ggX5_digest_X5_bitsOfDouble : GoodIn wsX5_digest wsX5_bitsOfDouble := goodIn_r _ [228, 229, 230] rfl (by decide +kernel)
set_option maxRecDepth 100000 in
theorem gX5_digest_X5_bitsOfDouble : GoodIn wsX5_digest (va_wsS RX5 248 yX5_bitsOfDouble wsX5_bitsOfDouble) := goodIn_app (goodIn_r _ [226, 227, 10] rfl (by decide +kernel)) ggX5_digest_X5_bitsOfDouble
set_option maxRecDepth 100000 in
theorem ggX5_digest_X5_meanPower : GoodIn wsX5_digest wsX5_meanPower := goodIn_r _ [234, 2, 12, 13, 246, 247, 248, 249, 250, 251, 252, 253, 254, 255, 256] rfl (by decide +kernel)
set_option maxRecDepth 100000 in
theorem gX5_digest_X5_meanPower : GoodIn wsX5_digest (wsV RX5 252 RX5 yX5_meanPower wsX5_meanPower) := goodIn_app (goodIn_r _ [231, 232, 233, 10] rfl (by decide +kernel)) ggX5_digest_X5_meanPower
set_option maxRecDepth 100000 in
theorem ggX5_digest_X5_bitsOfFloat : GoodIn wsX5_digest wsX5_bitsOfFloat := goodIn_r _ [237, 238] rfl (by decide +kernel)
set_option maxRecDepth 100000 in
theorem gX5_digest_X5_bitsOfFloat : GoodIn wsX5_digest (va_wsS RX5 256 yX5_bitsOfFloat wsX5_bitsOfFloat) := goodIn_app (goodIn_r _ [235, 236, 10] rfl (by decide +kernel)) ggX5_digest_X5_bitsOfFloat
set_option maxRecDepth 100000 in
theorem ggX5_digest_X5_oneIf : GoodIn wsX5_digest wsX5_oneIf := goodIn_r _ [78] rfl (by decide +kernel)
set_option maxRecDepth 100000 in
theorem gX5_digest_X5_oneIf : GoodIn wsX5_digest (va_wsS RX5 131 yX5_oneIf wsX5_oneIf) := goodIn_app (goodIn_r _ [116, 77, 10] rfl (by decide +kernel)) ggX5_digest_X5_oneIf
set_option maxRecDepth 100000 in
theorem ggX5_digest_X4_codeAt : GoodIn wsX5_digest wsX4_codeAt := goodIn_r _ [243, 244, 245, 257, 258] rfl (by decide +kernel)
set_option maxRecDepth 100000 in
theorem gX5_digest_X4_codeAt : GoodIn wsX5_digest (wsV RX5 260 RX4 yX4_codeAt wsX4_codeAt) := goodIn_app (goodIn_r _ [239, 240, 241, 242] rfl (by decide +kernel)) ggX5_digest_X4_codeAt
theorem dX5_digest_0 : decode cX5_digest 0 = .ok (.ldc2_w 231, 3) := by decide +kernel
theorem dX5_digest_3 : decode cX5_digest 3 = .ok (.lstore_n 1, 1) := by decide +kernel
theorem dX5_digest_4 : decode cX5_digest 4 = .ok (.iconst 0, 1) := by decide +kernel
theorem dX5_digest_5 : decode cX5_digest 5 = .ok (.istore_n 3, 1) := by decide +kernel
theorem dX5_digest_6 : decode cX5_digest 6 = .ok (.iload_n 3, 1) := by decide +kernel
theorem dX5_digest_7 : decode cX5_digest 7 = .ok (.bipush 11, 2) := by decide +kernel
theorem dX5_digest_9 : decode cX5_digest 9 = .ok (.if_icmp .gt 20, 3) := by decide +kernel
theorem dX5_digest_12 : decode cX5_digest 12 = .ok (.lload_n 1, 1) := by decide +kernel
theorem dX5_digest_13 : decode cX5_digest 13 = .ok (.aload_n 0, 1) := by decide +kernel
theorem dX5_digest_14 : decode cX5_digest 14 = .ok (.iload_n 3, 1) := by decide +kernel
theorem dX5_digest_15 : decode cX5_digest 15 = .ok (.invokevirtual 206, 3) := by decide +kernel
theorem dX5_digest_18 : decode cX5_digest 18 = .ok (.i2l, 1) := by decide +kernel
theorem dX5_digest_19 : decode cX5_digest 19 = .ok (.invokestatic 233, 3) := by decide +kernel
theorem dX5_digest_22 : decode cX5_digest 22 = .ok (.lstore_n 1, 1) := by decide +kernel
theorem dX5_digest_23 : decode cX5_digest 23 = .ok (.iinc 3 1, 3) := by decide +kernel
theorem dX5_digest_26 : decode cX5_digest 26 = .ok (.goto (-20), 3) := by decide +kernel
theorem dX5_digest_29 : decode cX5_digest 29 = .ok (.iconst 0, 1) := by decide +kernel
theorem dX5_digest_30 : decode cX5_digest 30 = .ok (.istore_n 3, 1) := by decide +kernel
theorem dX5_digest_31 : decode cX5_digest 31 = .ok (.iload_n 3, 1) := by decide +kernel
theorem dX5_digest_32 : decode cX5_digest 32 = .ok (.iconst 4, 1) := by decide +kernel
theorem dX5_digest_33 : decode cX5_digest 33 = .ok (.if_icmp .ge 24, 3) := by decide +kernel
theorem dX5_digest_36 : decode cX5_digest 36 = .ok (.lload_n 1, 1) := by decide +kernel
theorem dX5_digest_37 : decode cX5_digest 37 = .ok (.aload_n 0, 1) := by decide +kernel
theorem dX5_digest_38 : decode cX5_digest 38 = .ok (.getfield 10, 3) := by decide +kernel
theorem dX5_digest_41 : decode cX5_digest 41 = .ok (.getfield 148, 3) := by decide +kernel
theorem dX5_digest_44 : decode cX5_digest 44 = .ok (.iload_n 3, 1) := by decide +kernel
theorem dX5_digest_45 : decode cX5_digest 45 = .ok (.iaload, 1) := by decide +kernel
theorem dX5_digest_46 : decode cX5_digest 46 = .ok (.i2l, 1) := by decide +kernel
theorem dX5_digest_47 : decode cX5_digest 47 = .ok (.invokestatic 233, 3) := by decide +kernel
theorem dX5_digest_50 : decode cX5_digest 50 = .ok (.lstore_n 1, 1) := by decide +kernel
theorem dX5_digest_51 : decode cX5_digest 51 = .ok (.iinc 3 1, 3) := by decide +kernel
theorem dX5_digest_54 : decode cX5_digest 54 = .ok (.goto (-23), 3) := by decide +kernel
theorem dX5_digest_57 : decode cX5_digest 57 = .ok (.iconst 0, 1) := by decide +kernel
theorem dX5_digest_58 : decode cX5_digest 58 = .ok (.istore_n 3, 1) := by decide +kernel
theorem dX5_digest_59 : decode cX5_digest 59 = .ok (.iload_n 3, 1) := by decide +kernel
theorem dX5_digest_60 : decode cX5_digest 60 = .ok (.iconst 3, 1) := by decide +kernel
theorem dX5_digest_61 : decode cX5_digest 61 = .ok (.if_icmp .ge 16, 3) := by decide +kernel
theorem dX5_digest_64 : decode cX5_digest 64 = .ok (.aload_n 0, 1) := by decide +kernel
theorem dX5_digest_65 : decode cX5_digest 65 = .ok (.lload_n 1, 1) := by decide +kernel
theorem dX5_digest_66 : decode cX5_digest 66 = .ok (.iload_n 3, 1) := by decide +kernel
theorem dX5_digest_67 : decode cX5_digest 67 = .ok (.invokevirtual 237, 3) := by decide +kernel
theorem dX5_digest_70 : decode cX5_digest 70 = .ok (.lstore_n 1, 1) := by decide +kernel
theorem dX5_digest_71 : decode cX5_digest 71 = .ok (.iinc 3 1, 3) := by decide +kernel
theorem dX5_digest_74 : decode cX5_digest 74 = .ok (.goto (-15), 3) := by decide +kernel
theorem dX5_digest_77 : decode cX5_digest 77 = .ok (.iconst 0, 1) := by decide +kernel
theorem dX5_digest_78 : decode cX5_digest 78 = .ok (.istore_n 3, 1) := by decide +kernel
theorem dX5_digest_79 : decode cX5_digest 79 = .ok (.iload_n 3, 1) := by decide +kernel
theorem dX5_digest_80 : decode cX5_digest 80 = .ok (.iconst 4, 1) := by decide +kernel
theorem dX5_digest_81 : decode cX5_digest 81 = .ok (.if_icmp .ge 37, 3) := by decide +kernel
theorem dX5_digest_84 : decode cX5_digest 84 = .ok (.iconst 0, 1) := by decide +kernel
theorem dX5_digest_85 : decode cX5_digest 85 = .ok (.istore 4, 2) := by decide +kernel
theorem dX5_digest_87 : decode cX5_digest 87 = .ok (.iload 4, 2) := by decide +kernel
theorem dX5_digest_89 : decode cX5_digest 89 = .ok (.iconst 2, 1) := by decide +kernel
theorem dX5_digest_90 : decode cX5_digest 90 = .ok (.if_icmp .gt 22, 3) := by decide +kernel
theorem dX5_digest_93 : decode cX5_digest 93 = .ok (.lload_n 1, 1) := by decide +kernel
theorem dX5_digest_94 : decode cX5_digest 94 = .ok (.aload_n 0, 1) := by decide +kernel
theorem dX5_digest_95 : decode cX5_digest 95 = .ok (.iload_n 3, 1) := by decide +kernel
theorem dX5_digest_96 : decode cX5_digest 96 = .ok (.iload 4, 2) := by decide +kernel
theorem dX5_digest_98 : decode cX5_digest 98 = .ok (.invokevirtual 203, 3) := by decide +kernel
theorem dX5_digest_101 : decode cX5_digest 101 = .ok (.i2l, 1) := by decide +kernel
theorem dX5_digest_102 : decode cX5_digest 102 = .ok (.invokestatic 233, 3) := by decide +kernel
theorem dX5_digest_105 : decode cX5_digest 105 = .ok (.lstore_n 1, 1) := by decide +kernel
theorem dX5_digest_106 : decode cX5_digest 106 = .ok (.iinc 4 1, 3) := by decide +kernel
theorem dX5_digest_109 : decode cX5_digest 109 = .ok (.goto (-22), 3) := by decide +kernel
theorem dX5_digest_112 : decode cX5_digest 112 = .ok (.iinc 3 1, 3) := by decide +kernel
theorem dX5_digest_115 : decode cX5_digest 115 = .ok (.goto (-36), 3) := by decide +kernel
theorem dX5_digest_118 : decode cX5_digest 118 = .ok (.lload_n 1, 1) := by decide +kernel
theorem dX5_digest_119 : decode cX5_digest 119 = .ok (.aload_n 0, 1) := by decide +kernel
theorem dX5_digest_120 : decode cX5_digest 120 = .ok (.invokevirtual 241, 3) := by decide +kernel
theorem dX5_digest_123 : decode cX5_digest 123 = .ok (.i2l, 1) := by decide +kernel
theorem dX5_digest_124 : decode cX5_digest 124 = .ok (.invokestatic 233, 3) := by decide +kernel
theorem dX5_digest_127 : decode cX5_digest 127 = .ok (.lstore_n 1, 1) := by decide +kernel
theorem dX5_digest_128 : decode cX5_digest 128 = .ok (.lload_n 1, 1) := by decide +kernel
theorem dX5_digest_129 : decode cX5_digest 129 = .ok (.aload_n 0, 1) := by decide +kernel
theorem dX5_digest_130 : decode cX5_digest 130 = .ok (.invokevirtual 244, 3) := by decide +kernel
theorem dX5_digest_133 : decode cX5_digest 133 = .ok (.invokestatic 248, 3) := by decide +kernel
theorem dX5_digest_136 : decode cX5_digest 136 = .ok (.invokestatic 233, 3) := by decide +kernel
theorem dX5_digest_139 : decode cX5_digest 139 = .ok (.lstore_n 1, 1) := by decide +kernel
theorem dX5_digest_140 : decode cX5_digest 140 = .ok (.lload_n 1, 1) := by decide +kernel
theorem dX5_digest_141 : decode cX5_digest 141 = .ok (.aload_n 0, 1) := by decide +kernel
theorem dX5_digest_142 : decode cX5_digest 142 = .ok (.invokevirtual 252, 3) := by decide +kernel
theorem dX5_digest_145 : decode cX5_digest 145 = .ok (.invokestatic 256, 3) := by decide +kernel
theorem dX5_digest_148 : decode cX5_digest 148 = .ok (.i2l, 1) := by decide +kernel
theorem dX5_digest_149 : decode cX5_digest 149 = .ok (.invokestatic 233, 3) := by decide +kernel
theorem dX5_digest_152 : decode cX5_digest 152 = .ok (.lstore_n 1, 1) := by decide +kernel
theorem dX5_digest_153 : decode cX5_digest 153 = .ok (.lload_n 1, 1) := by decide +kernel
theorem dX5_digest_154 : decode cX5_digest 154 = .ok (.aload_n 0, 1) := by decide +kernel
theorem dX5_digest_155 : decode cX5_digest 155 = .ok (.getfield 183, 3) := by decide +kernel
theorem dX5_digest_158 : decode cX5_digest 158 = .ok (.invokestatic 131, 3) := by decide +kernel
theorem dX5_digest_161 : decode cX5_digest 161 = .ok (.i2l, 1) := by decide +kernel
theorem dX5_digest_162 : decode cX5_digest 162 = .ok (.invokestatic 233, 3) := by decide +kernel
theorem dX5_digest_165 : decode cX5_digest 165 = .ok (.lstore_n 1, 1) := by decide +kernel
theorem dX5_digest_166 : decode cX5_digest 166 = .ok (.lload_n 1, 1) := by decide +kernel
theorem dX5_digest_167 : decode cX5_digest 167 = .ok (.aload_n 0, 1) := by decide +kernel
theorem dX5_digest_168 : decode cX5_digest 168 = .ok (.getfield 32, 3) := by decide +kernel
theorem dX5_digest_171 : decode cX5_digest 171 = .ok (.getfield 159, 3) := by decide +kernel
theorem dX5_digest_174 : decode cX5_digest 174 = .ok (.i2l, 1) := by decide +kernel
theorem dX5_digest_175 : decode cX5_digest 175 = .ok (.invokestatic 233, 3) := by decide +kernel
theorem dX5_digest_178 : decode cX5_digest 178 = .ok (.lstore_n 1, 1) := by decide +kernel
theorem dX5_digest_179 : decode cX5_digest 179 = .ok (.iconst 0, 1) := by decide +kernel
theorem dX5_digest_180 : decode cX5_digest 180 = .ok (.istore_n 3, 1) := by decide +kernel
theorem dX5_digest_181 : decode cX5_digest 181 = .ok (.iload_n 3, 1) := by decide +kernel
theorem dX5_digest_182 : decode cX5_digest 182 = .ok (.aload_n 0, 1) := by decide +kernel
theorem dX5_digest_183 : decode cX5_digest 183 = .ok (.getfield 32, 3) := by decide +kernel
theorem dX5_digest_186 : decode cX5_digest 186 = .ok (.getfield 159, 3) := by decide +kernel
theorem dX5_digest_189 : decode cX5_digest 189 = .ok (.if_icmp .ge 23, 3) := by decide +kernel
theorem dX5_digest_192 : decode cX5_digest 192 = .ok (.lload_n 1, 1) := by decide +kernel
theorem dX5_digest_193 : decode cX5_digest 193 = .ok (.aload_n 0, 1) := by decide +kernel
theorem dX5_digest_194 : decode cX5_digest 194 = .ok (.getfield 32, 3) := by decide +kernel
theorem dX5_digest_197 : decode cX5_digest 197 = .ok (.iload_n 3, 1) := by decide +kernel
theorem dX5_digest_198 : decode cX5_digest 198 = .ok (.invokevirtual 260, 3) := by decide +kernel
theorem dX5_digest_201 : decode cX5_digest 201 = .ok (.i2l, 1) := by decide +kernel
theorem dX5_digest_202 : decode cX5_digest 202 = .ok (.invokestatic 233, 3) := by decide +kernel
theorem dX5_digest_205 : decode cX5_digest 205 = .ok (.lstore_n 1, 1) := by decide +kernel
theorem dX5_digest_206 : decode cX5_digest 206 = .ok (.iinc 3 1, 3) := by decide +kernel
theorem dX5_digest_209 : decode cX5_digest 209 = .ok (.goto (-28), 3) := by decide +kernel
theorem dX5_digest_212 : decode cX5_digest 212 = .ok (.lload_n 1, 1) := by decide +kernel
theorem dX5_digest_213 : decode cX5_digest 213 = .ok (.lreturn, 1) := by decide +kernel
set_option maxRecDepth 100000 in
theorem ggX5_mixedWithSet_X5_tellOfSet : GoodIn wsX5_mixedWithSet wsX5_tellOfSet := goodIn_r _ [5, 6, 7, 8, 9, 10, 11, 12, 13, 14, 15, 16, 17, 18, 19, 4, 20, 21, 22, 23, 24, 25, 26, 27, 28, 29, 30, 31, 32, 33, 34, 35, 36, 37, 38, 39, 40, 41, 42, 43, 44, 45, 46, 47, 48, 49, 50, 51, 52, 53, 54, 55, 56, 57, 58, 59, 60, 61, 62, 63, 64, 65, 66, 67, 68, 69, 70, 71, 72, 73, 74, 75, 76, 77, 78, 79, 80, 81, 82, 83, 169, 170, 171, 172, 173, 174, 175, 176, 177, 178, 179, 180, 181, 182, 183, 184, 185, 186, 187, 188, 189, 190, 191, 192] rfl (by decide +kernel)
set_option maxRecDepth 100000 in
theorem gX5_mixedWithSet_X5_tellOfSet : GoodIn wsX5_mixedWithSet (wsV RX5 199 RX5 yX5_tellOfSet wsX5_tellOfSet) := goodIn_app (goodIn_r _ [1, 2, 3, 4] rfl (by decide +kernel)) ggX5_mixedWithSet_X5_tellOfSet
set_option maxRecDepth 100000 in
theorem ggX5_mixedWithSet_X5_mixed : GoodIn wsX5_mixedWithSet wsX5_mixed := goodIn_r _ [86, 87] rfl (by decide +kernel)
set_option maxRecDepth 100000 in
theorem gX5_mixedWithSet_X5_mixed : GoodIn wsX5_mixedWithSet (va_wsS RX5 233 yX5_mixed wsX5_mixed) := goodIn_app (goodIn_r _ [84, 85, 4] rfl (by decide +kernel)) ggX5_mixedWithSet_X5_mixed
set_option maxRecDepth 100000 in
theorem ggX5_mixedWithSet_X5_tellIfSpeed : GoodIn wsX5_mixedWithSet wsX5_tellIfSpeed := goodIn_r _ [91, 92, 6, 7, 10, 93, 94, 95, 24, 96, 30, 36, 81, 97, 98, 99, 100, 101, 46, 102, 51, 49, 50, 103, 48, 68, 104, 105, 106, 107, 108, 109, 110, 111, 112, 113, 114, 115, 21, 22, 23, 25, 26, 27, 28, 29, 31, 32, 33, 34, 35, 37, 38, 39, 40, 41, 42, 43, 44, 45, 47, 52, 53, 54, 55, 56, 57, 58, 59, 60, 61, 62, 63, 116, 117, 118, 119, 169, 170, 171, 172, 173, 174, 175, 176, 177, 178, 179, 180, 181, 182, 183, 184, 185, 186, 187, 188, 189, 190, 191, 192] rfl (by decide +kernel)
set_option maxRecDepth 100000 in
theorem gX5_mixedWithSet_X5_tellIfSpeed : GoodIn wsX5_mixedWithSet (wsV RX5 209 RX5 yX5_tellIfSpeed wsX5_tellIfSpeed) := goodIn_app (goodIn_r _ [88, 89, 90, 4] rfl (by decide +kernel)) ggX5_mixedWithSet_X5_tellIfSpeed
set_option maxRecDepth 100000 in
theorem ggX5_mixedWithSet_X5_ticksUntilClosing : GoodIn wsX5_mixedWithSet wsX5_ticksUntilClosing := goodIn_r _ [123, 6, 7, 11, 92, 93, 94, 95, 24, 96, 30, 36, 81, 97, 98, 99, 100, 101, 46, 102, 51, 49, 50, 103, 48, 68, 104, 105, 106, 107, 108, 109, 110, 111, 112, 113, 114, 115, 72, 73, 74, 75, 76, 31, 77, 78, 79, 58, 80, 26, 27, 28, 29, 82, 22, 23, 25, 32, 33, 34, 35, 37, 38, 39, 40, 41, 42, 43, 44, 45, 47, 83, 65, 66, 67, 69, 70, 71, 124, 125, 126, 127, 128, 117, 118, 119, 56, 57, 59, 129, 53, 54, 55, 60, 61, 62, 63, 130, 131, 132, 133, 134, 135, 136, 137, 138, 139, 140, 141, 142, 143, 144, 145, 146, 147, 148, 149, 150, 151, 152, 153, 154, 155, 156, 157, 169, 170, 171, 172, 173, 174, 175, 176, 177, 178, 179, 180, 181, 182, 183, 184, 185, 186, 187, 188, 189, 190, 191, 192] rfl (by decide +kernel)
set_option maxRecDepth 100000 in
theorem gX5_mixedWithSet_X5_ticksUntilClosing : GoodIn wsX5_mixedWithSet (wsV RX5 213 RX5 yX5_ticksUntilClosing wsX5_ticksUntilClosing) := goodIn_app (goodIn_r _ [120, 121, 122, 4] rfl (by decide +kernel)) ggX5_mixedWithSet_X5_ticksUntilClosing
set_option maxRecDepth 100000 in
theorem ggX5_mixedWithSet_X5_speedForFairShare : GoodIn wsX5_mixedWithSet wsX5_speedForFairShare := goodIn_r _ [161, 6, 7, 12, 8, 92, 10, 162, 79, 58, 80, 163, 164, 165, 24, 166, 30, 31, 167, 168, 33, 34, 35, 36, 37, 38, 26, 27, 28, 29, 93, 94, 95, 96, 81, 97, 98, 99, 100, 101, 46, 102, 51, 49, 50, 103, 48, 68, 104, 105, 106, 107, 108, 109, 110, 111, 112, 113, 114, 115, 21, 22, 23, 25, 32, 39, 40, 41, 42, 43, 44, 45, 47, 52, 53, 54, 55, 56, 57, 59, 60, 61, 62, 63, 169, 170, 171, 172, 173, 174, 175, 176, 177, 178, 179, 180, 181, 182, 183, 184, 185, 186, 187, 188, 189, 190, 191, 192] rfl (by decide +kernel)
set_option maxRecDepth 100000 in
theorem gX5_mixedWithSet_X5_speedForFairShare : GoodIn wsX5_mixedWithSet (wsV RX5 216 RX5 yX5_speedForFairShare wsX5_speedForFairShare) := goodIn_app (goodIn_r _ [158, 159, 160, 4] rfl (by decide +kernel)) ggX5_mixedWithSet_X5_speedForFairShare
theorem dX5_mixedWithSet_0 : decode cX5_mixedWithSet 0 = .ok (.lload_n 1, 1) := by decide +kernel
theorem dX5_mixedWithSet_1 : decode cX5_mixedWithSet 1 = .ok (.lstore 4, 2) := by decide +kernel
theorem dX5_mixedWithSet_3 : decode cX5_mixedWithSet 3 = .ok (.iconst 0, 1) := by decide +kernel
theorem dX5_mixedWithSet_4 : decode cX5_mixedWithSet 4 = .ok (.istore 6, 2) := by decide +kernel
theorem dX5_mixedWithSet_6 : decode cX5_mixedWithSet 6 = .ok (.iload 6, 2) := by decide +kernel
theorem dX5_mixedWithSet_8 : decode cX5_mixedWithSet 8 = .ok (.bipush 12, 2) := by decide +kernel
theorem dX5_mixedWithSet_10 : decode cX5_mixedWithSet 10 = .ok (.if_icmp .gt 24, 3) := by decide +kernel
theorem dX5_mixedWithSet_13 : decode cX5_mixedWithSet 13 = .ok (.lload 4, 2) := by decide +kernel
theorem dX5_mixedWithSet_15 : decode cX5_mixedWithSet 15 = .ok (.aload_n 0, 1) := by decide +kernel
theorem dX5_mixedWithSet_16 : decode cX5_mixedWithSet 16 = .ok (.iload_n 3, 1) := by decide +kernel
theorem dX5_mixedWithSet_17 : decode cX5_mixedWithSet 17 = .ok (.iload 6, 2) := by decide +kernel
theorem dX5_mixedWithSet_19 : decode cX5_mixedWithSet 19 = .ok (.invokevirtual 199, 3) := by decide +kernel
theorem dX5_mixedWithSet_22 : decode cX5_mixedWithSet 22 = .ok (.i2l, 1) := by decide +kernel
theorem dX5_mixedWithSet_23 : decode cX5_mixedWithSet 23 = .ok (.invokestatic 233, 3) := by decide +kernel
theorem dX5_mixedWithSet_26 : decode cX5_mixedWithSet 26 = .ok (.lstore 4, 2) := by decide +kernel
theorem dX5_mixedWithSet_28 : decode cX5_mixedWithSet 28 = .ok (.iinc 6 1, 3) := by decide +kernel
theorem dX5_mixedWithSet_31 : decode cX5_mixedWithSet 31 = .ok (.goto (-25), 3) := by decide +kernel
theorem dX5_mixedWithSet_34 : decode cX5_mixedWithSet 34 = .ok (.iconst 0, 1) := by decide +kernel
theorem dX5_mixedWithSet_35 : decode cX5_mixedWithSet 35 = .ok (.istore 6, 2) := by decide +kernel
theorem dX5_mixedWithSet_37 : decode cX5_mixedWithSet 37 = .ok (.iload 6, 2) := by decide +kernel
theorem dX5_mixedWithSet_39 : decode cX5_mixedWithSet 39 = .ok (.iconst 2, 1) := by decide +kernel
theorem dX5_mixedWithSet_40 : decode cX5_mixedWithSet 40 = .ok (.if_icmp .gt 27, 3) := by decide +kernel
theorem dX5_mixedWithSet_43 : decode cX5_mixedWithSet 43 = .ok (.lload 4, 2) := by decide +kernel
theorem dX5_mixedWithSet_45 : decode cX5_mixedWithSet 45 = .ok (.aload_n 0, 1) := by decide +kernel
theorem dX5_mixedWithSet_46 : decode cX5_mixedWithSet 46 = .ok (.iload_n 3, 1) := by decide +kernel
theorem dX5_mixedWithSet_47 : decode cX5_mixedWithSet 47 = .ok (.sipush 5050, 3) := by decide +kernel
theorem dX5_mixedWithSet_50 : decode cX5_mixedWithSet 50 = .ok (.iload 6, 2) := by decide +kernel
theorem dX5_mixedWithSet_52 : decode cX5_mixedWithSet 52 = .ok (.invokevirtual 209, 3) := by decide +kernel
theorem dX5_mixedWithSet_55 : decode cX5_mixedWithSet 55 = .ok (.i2l, 1) := by decide +kernel
theorem dX5_mixedWithSet_56 : decode cX5_mixedWithSet 56 = .ok (.invokestatic 233, 3) := by decide +kernel
theorem dX5_mixedWithSet_59 : decode cX5_mixedWithSet 59 = .ok (.lstore 4, 2) := by decide +kernel
theorem dX5_mixedWithSet_61 : decode cX5_mixedWithSet 61 = .ok (.iinc 6 1, 3) := by decide +kernel
theorem dX5_mixedWithSet_64 : decode cX5_mixedWithSet 64 = .ok (.goto (-27), 3) := by decide +kernel
theorem dX5_mixedWithSet_67 : decode cX5_mixedWithSet 67 = .ok (.lload 4, 2) := by decide +kernel
theorem dX5_mixedWithSet_69 : decode cX5_mixedWithSet 69 = .ok (.aload_n 0, 1) := by decide +kernel
theorem dX5_mixedWithSet_70 : decode cX5_mixedWithSet 70 = .ok (.iload_n 3, 1) := by decide +kernel
theorem dX5_mixedWithSet_71 : decode cX5_mixedWithSet 71 = .ok (.invokevirtual 213, 3) := by decide +kernel
theorem dX5_mixedWithSet_74 : decode cX5_mixedWithSet 74 = .ok (.i2l, 1) := by decide +kernel
theorem dX5_mixedWithSet_75 : decode cX5_mixedWithSet 75 = .ok (.invokestatic 233, 3) := by decide +kernel
theorem dX5_mixedWithSet_78 : decode cX5_mixedWithSet 78 = .ok (.lstore 4, 2) := by decide +kernel
theorem dX5_mixedWithSet_80 : decode cX5_mixedWithSet 80 = .ok (.lload 4, 2) := by decide +kernel
theorem dX5_mixedWithSet_82 : decode cX5_mixedWithSet 82 = .ok (.aload_n 0, 1) := by decide +kernel
theorem dX5_mixedWithSet_83 : decode cX5_mixedWithSet 83 = .ok (.iload_n 3, 1) := by decide +kernel
theorem dX5_mixedWithSet_84 : decode cX5_mixedWithSet 84 = .ok (.invokevirtual 216, 3) := by decide +kernel
theorem dX5_mixedWithSet_87 : decode cX5_mixedWithSet 87 = .ok (.i2l, 1) := by decide +kernel
theorem dX5_mixedWithSet_88 : decode cX5_mixedWithSet 88 = .ok (.invokestatic 233, 3) := by decide +kernel
theorem dX5_mixedWithSet_91 : decode cX5_mixedWithSet 91 = .ok (.lreturn, 1) := by decide +kernel
theorem dX5_mixed_0 : decode cX5_mixed 0 = .ok (.ldc2_w 263, 3) := by decide +kernel
theorem dX5_mixed_3 : decode cX5_mixed 3 = .ok (.lload_n 0, 1) := by decide +kernel
theorem dX5_mixed_4 : decode cX5_mixed 4 = .ok (.lmul, 1) := by decide +kernel
theorem dX5_mixed_5 : decode cX5_mixed 5 = .ok (.lload_n 2, 1) := by decide +kernel
theorem dX5_mixed_6 : decode cX5_mixed 6 = .ok (.ladd, 1) := by decide +kernel
theorem dX5_mixed_7 : decode cX5_mixed 7 = .ok (.lreturn, 1) := by decide +kernel
theorem dX5_isSet_0 : decode cX5_isSet 0 = .ok (.iload_n 0, 1) := by decide +kernel
theorem dX5_isSet_1 : decode cX5_isSet 1 = .ok (.ifCond .lt 12, 3) := by decide +kernel
theorem dX5_isSet_4 : decode cX5_isSet 4 = .ok (.iload_n 0, 1) := by decide +kernel
theorem dX5_isSet_5 : decode cX5_isSet 5 = .ok (.iconst 3, 1) := by decide +kernel
theorem dX5_isSet_6 : decode cX5_isSet 6 = .ok (.if_icmp .ge 7, 3) := by decide +kernel
theorem dX5_isSet_9 : decode cX5_isSet 9 = .ok (.iconst 1, 1) := by decide +kernel
theorem dX5_isSet_10 : decode cX5_isSet 10 = .ok (.goto 4, 3) := by decide +kernel
theorem dX5_isSet_13 : decode cX5_isSet 13 = .ok (.iconst 0, 1) := by decide +kernel
theorem dX5_isSet_14 : decode cX5_isSet 14 = .ok (.ireturn, 1) := by decide +kernel
theorem dX5_isFeeder_0 : decode cX5_isFeeder 0 = .ok (.iload_n 0, 1) := by decide +kernel
theorem dX5_isFeeder_1 : decode cX5_isFeeder 1 = .ok (.ifCond .lt 12, 3) := by decide +kernel
theorem dX5_isFeeder_4 : decode cX5_isFeeder 4 = .ok (.iload_n 0, 1) := by decide +kernel
theorem dX5_isFeeder_5 : decode cX5_isFeeder 5 = .ok (.iconst 4, 1) := by decide +kernel
theorem dX5_isFeeder_6 : decode cX5_isFeeder 6 = .ok (.if_icmp .ge 7, 3) := by decide +kernel
theorem dX5_isFeeder_9 : decode cX5_isFeeder 9 = .ok (.iconst 1, 1) := by decide +kernel
theorem dX5_isFeeder_10 : decode cX5_isFeeder 10 = .ok (.goto 4, 3) := by decide +kernel
theorem dX5_isFeeder_13 : decode cX5_isFeeder 13 = .ok (.iconst 0, 1) := by decide +kernel
theorem dX5_isFeeder_14 : decode cX5_isFeeder 14 = .ok (.ireturn, 1) := by decide +kernel
set_option maxRecDepth 100000 in
theorem ggX5_needSet_X5_isSet : GoodIn wsX5_needSet wsX5_isSet := goodIn_r _ [6] rfl (by decide +kernel)
set_option maxRecDepth 100000 in
theorem gX5_needSet_X5_isSet : GoodIn wsX5_needSet (va_wsS RX5 265 yX5_isSet wsX5_isSet) := goodIn_app (goodIn_r _ [3, 4, 5] rfl (by decide +kernel)) ggX5_needSet_X5_isSet
theorem dX5_needSet_0 : decode cX5_needSet 0 = .ok (.iload_n 0, 1) := by decide +kernel
theorem dX5_needSet_1 : decode cX5_needSet 1 = .ok (.invokestatic 265, 3) := by decide +kernel
theorem dX5_needSet_4 : decode cX5_needSet 4 = .ok (.ifCond .ne 14, 3) := by decide +kernel
theorem dX5_needSet_7 : decode cX5_needSet 7 = .ok (.new 269, 3) := by decide +kernel
theorem dX5_needSet_10 : decode cX5_needSet 10 = .ok (.dup, 1) := by decide +kernel
theorem dX5_needSet_11 : decode cX5_needSet 11 = .ok (.ldc_w 271, 3) := by decide +kernel
theorem dX5_needSet_14 : decode cX5_needSet 14 = .ok (.invokespecial 273, 3) := by decide +kernel
theorem dX5_needSet_17 : decode cX5_needSet 17 = .ok (.athrow, 1) := by decide +kernel
theorem dX5_needSet_18 : decode cX5_needSet 18 = .ok (.return_, 1) := by decide +kernel
set_option maxRecDepth 100000 in
theorem ggX5_needFeeder_X5_isFeeder : GoodIn wsX5_needFeeder wsX5_isFeeder := goodIn_r _ [6] rfl (by decide +kernel)
set_option maxRecDepth 100000 in
theorem gX5_needFeeder_X5_isFeeder : GoodIn wsX5_needFeeder (va_wsS RX5 274 yX5_isFeeder wsX5_isFeeder) := goodIn_app (goodIn_r _ [3, 4, 5] rfl (by decide +kernel)) ggX5_needFeeder_X5_isFeeder
theorem dX5_needFeeder_0 : decode cX5_needFeeder 0 = .ok (.iload_n 0, 1) := by decide +kernel
theorem dX5_needFeeder_1 : decode cX5_needFeeder 1 = .ok (.invokestatic 274, 3) := by decide +kernel
theorem dX5_needFeeder_4 : decode cX5_needFeeder 4 = .ok (.ifCond .ne 14, 3) := by decide +kernel
theorem dX5_needFeeder_7 : decode cX5_needFeeder 7 = .ok (.new 269, 3) := by decide +kernel
theorem dX5_needFeeder_10 : decode cX5_needFeeder 10 = .ok (.dup, 1) := by decide +kernel
theorem dX5_needFeeder_11 : decode cX5_needFeeder 11 = .ok (.ldc_w 277, 3) := by decide +kernel
theorem dX5_needFeeder_14 : decode cX5_needFeeder 14 = .ok (.invokespecial 273, 3) := by decide +kernel
theorem dX5_needFeeder_17 : decode cX5_needFeeder 17 = .ok (.athrow, 1) := by decide +kernel
theorem dX5_needFeeder_18 : decode cX5_needFeeder 18 = .ok (.return_, 1) := by decide +kernel
theorem dX5_needSetting_0 : decode cX5_needSetting 0 = .ok (.iload_n 0, 1) := by decide +kernel
theorem dX5_needSetting_1 : decode cX5_needSetting 1 = .ok (.ifCond .lt 8, 3) := by decide +kernel
theorem dX5_needSetting_4 : decode cX5_needSetting 4 = .ok (.iload_n 0, 1) := by decide +kernel
theorem dX5_needSetting_5 : decode cX5_needSetting 5 = .ok (.iconst 4, 1) := by decide +kernel
theorem dX5_needSetting_6 : decode cX5_needSetting 6 = .ok (.if_icmp .lt 14, 3) := by decide +kernel
theorem dX5_needSetting_9 : decode cX5_needSetting 9 = .ok (.new 269, 3) := by decide +kernel
theorem dX5_needSetting_12 : decode cX5_needSetting 12 = .ok (.dup, 1) := by decide +kernel
theorem dX5_needSetting_13 : decode cX5_needSetting 13 = .ok (.ldc_w 279, 3) := by decide +kernel
theorem dX5_needSetting_16 : decode cX5_needSetting 16 = .ok (.invokespecial 273, 3) := by decide +kernel
theorem dX5_needSetting_19 : decode cX5_needSetting 19 = .ok (.athrow, 1) := by decide +kernel
theorem dX5_needSetting_20 : decode cX5_needSetting 20 = .ok (.return_, 1) := by decide +kernel
theorem dX5_needRange_0 : decode cX5_needRange 0 = .ok (.iload_n 0, 1) := by decide +kernel
theorem dX5_needRange_1 : decode cX5_needRange 1 = .ok (.iload_n 1, 1) := by decide +kernel
theorem dX5_needRange_2 : decode cX5_needRange 2 = .ok (.if_icmp .lt 8, 3) := by decide +kernel
theorem dX5_needRange_5 : decode cX5_needRange 5 = .ok (.iload_n 0, 1) := by decide +kernel
theorem dX5_needRange_6 : decode cX5_needRange 6 = .ok (.iload_n 2, 1) := by decide +kernel
theorem dX5_needRange_7 : decode cX5_needRange 7 = .ok (.if_icmp .le 14, 3) := by decide +kernel
theorem dX5_needRange_10 : decode cX5_needRange 10 = .ok (.new 168, 3) := by decide +kernel
theorem dX5_needRange_13 : decode cX5_needRange 13 = .ok (.dup, 1) := by decide +kernel
theorem dX5_needRange_14 : decode cX5_needRange 14 = .ok (.ldc_w 281, 3) := by decide +kernel
theorem dX5_needRange_17 : decode cX5_needRange 17 = .ok (.invokespecial 172, 3) := by decide +kernel
theorem dX5_needRange_20 : decode cX5_needRange 20 = .ok (.athrow, 1) := by decide +kernel
theorem dX5_needRange_21 : decode cX5_needRange 21 = .ok (.return_, 1) := by decide +kernel
set_option maxRecDepth 100000 in
theorem ggX5_carryOut_X4_codeAt : GoodIn wsX5_carryOut wsX4_codeAt := goodIn_r _ [9, 10, 11, 184, 185] rfl (by decide +kernel)
set_option maxRecDepth 100000 in
theorem gX5_carryOut_X4_codeAt : GoodIn wsX5_carryOut (wsV RX5 260 RX4 yX4_codeAt wsX4_codeAt) := goodIn_app (goodIn_r _ [5, 6, 7, 8] rfl (by decide +kernel)) ggX5_carryOut_X4_codeAt
set_option maxRecDepth 100000 in
theorem ggX5_carryOut_X4_number : GoodIn wsX5_carryOut wsX4_number := goodIn_r _ [15, 16, 6, 7, 8, 9, 10, 11, 184, 185] rfl (by decide +kernel)
set_option maxRecDepth 100000 in
theorem gX5_carryOut_X4_number : GoodIn wsX5_carryOut (wsV RX5 283 RX4 yX4_number wsX4_number) := goodIn_app (goodIn_r _ [12, 13, 14, 8] rfl (by decide +kernel)) ggX5_carryOut_X4_number
set_option maxRecDepth 100000 in
theorem ggX5_carryOut_X0_passTicks : GoodIn wsX5_carryOut wsX0_passTicks := goodIn_r _ [21, 22, 23, 24, 20, 25, 26, 27, 28, 29, 30, 31, 32, 33, 34, 35, 36, 37, 38, 39, 40, 41, 42, 43, 44, 45, 46, 47, 48, 49, 50, 51, 52, 53, 54, 55, 56, 57, 58, 59, 60, 61, 62, 63, 64, 65, 66, 67, 68, 69, 70, 71, 72, 73, 74, 75, 76, 77, 78, 79, 80, 81, 82, 83, 84, 85, 86, 87, 88, 89, 90, 91, 92, 93, 94, 95, 96, 97, 98, 99, 100, 101, 102, 103, 104, 105, 106, 107, 169, 170, 171, 172, 173, 174, 175, 176, 177, 178, 179, 180, 181, 182, 183, 186, 187, 188] rfl (by decide +kernel)
set_option maxRecDepth 100000 in
theorem gX5_carryOut_X0_passTicks : GoodIn wsX5_carryOut (wsV RX5 135 RX0 yX0_passTicks wsX0_passTicks) := goodIn_app (goodIn_r _ [17, 18, 19, 20] rfl (by decide +kernel)) ggX5_carryOut_X0_passTicks
set_option maxRecDepth 100000 in
theorem ggX5_carryOut_X5_switchFeeder : GoodIn wsX5_carryOut wsX5_switchFeeder := goodIn_r _ [112, 2, 113, 114, 115, 116, 111, 117, 163, 164, 165, 166, 167, 168, 169, 170, 171, 172, 173, 186, 187, 188] rfl (by decide +kernel)
set_option maxRecDepth 100000 in
theorem gX5_carryOut_X5_switchFeeder : GoodIn wsX5_carryOut (wsV RX5 286 RX5 yX5_switchFeeder wsX5_switchFeeder) := goodIn_app (goodIn_r _ [108, 109, 110, 111] rfl (by decide +kernel)) ggX5_carryOut_X5_switchFeeder
set_option maxRecDepth 100000 in
theorem ggX5_carryOut_X5_isSet : GoodIn wsX5_carryOut wsX5_isSet := goodIn_r _ [120] rfl (by decide +kernel)
set_option maxRecDepth 100000 in
theorem gX5_carryOut_X5_isSet : GoodIn wsX5_carryOut (va_wsS RX5 265 yX5_isSet wsX5_isSet) := goodIn_app (goodIn_r _ [118, 119, 111] rfl (by decide +kernel)) ggX5_carryOut_X5_isSet
set_option maxRecDepth 100000 in
theorem ggX5_carryOut_X5_commandSet : GoodIn wsX5_carryOut wsX5_commandSet := goodIn_r _ [124, 2, 3, 125, 126, 127, 128, 52, 129, 81, 130, 131, 132, 133, 104, 105, 106, 107, 82, 79, 80, 134, 135, 136, 137, 54, 138, 139, 140, 141, 142, 143, 144, 20, 145, 27, 146, 37, 147, 148, 149, 64, 150, 97, 33, 34, 35, 36, 29, 30, 31, 32, 38, 39, 40, 41, 42, 43, 44, 45, 46, 47, 48, 49, 50, 51, 53, 55, 56, 57, 151, 152, 153, 154, 155, 156, 157, 158, 159, 160, 161, 162, 101, 102, 103, 163, 164, 165, 166, 167, 168, 169, 170, 171, 172, 173, 174, 175, 176, 177, 178, 179, 180, 181, 182, 183, 186, 187, 188] rfl (by decide +kernel)
set_option maxRecDepth 100000 in
theorem gX5_carryOut_X5_commandSet : GoodIn wsX5_carryOut (wsV RX5 290 RX5 yX5_commandSet wsX5_commandSet) := goodIn_app (goodIn_r _ [121, 122, 123, 111] rfl (by decide +kernel)) ggX5_carryOut_X5_commandSet
theorem dX5_carryOut_0 : decode cX5_carryOut 0 = .ok (.aload_n 0, 1) := by decide +kernel
theorem dX5_carryOut_1 : decode cX5_carryOut 1 = .ok (.getfield 32, 3) := by decide +kernel
theorem dX5_carryOut_4 : decode cX5_carryOut 4 = .ok (.iload_n 1, 1) := by decide +kernel
theorem dX5_carryOut_5 : decode cX5_carryOut 5 = .ok (.invokevirtual 260, 3) := by decide +kernel
theorem dX5_carryOut_8 : decode cX5_carryOut 8 = .ok (.istore_n 3, 1) := by decide +kernel
theorem dX5_carryOut_9 : decode cX5_carryOut 9 = .ok (.iload_n 3, 1) := by decide +kernel
theorem dX5_carryOut_10 : decode cX5_carryOut 10 = .ok (.bipush 116, 2) := by decide +kernel
theorem dX5_carryOut_12 : decode cX5_carryOut 12 = .ok (.if_icmp .ne 24, 3) := by decide +kernel
theorem dX5_carryOut_15 : decode cX5_carryOut 15 = .ok (.aload_n 0, 1) := by decide +kernel
theorem dX5_carryOut_16 : decode cX5_carryOut 16 = .ok (.getfield 10, 3) := by decide +kernel
theorem dX5_carryOut_19 : decode cX5_carryOut 19 = .ok (.aload_n 0, 1) := by decide +kernel
theorem dX5_carryOut_20 : decode cX5_carryOut 20 = .ok (.getfield 32, 3) := by decide +kernel
theorem dX5_carryOut_23 : decode cX5_carryOut 23 = .ok (.iload_n 1, 1) := by decide +kernel
theorem dX5_carryOut_24 : decode cX5_carryOut 24 = .ok (.iconst 1, 1) := by decide +kernel
theorem dX5_carryOut_25 : decode cX5_carryOut 25 = .ok (.iadd, 1) := by decide +kernel
theorem dX5_carryOut_26 : decode cX5_carryOut 26 = .ok (.iload_n 2, 1) := by decide +kernel
theorem dX5_carryOut_27 : decode cX5_carryOut 27 = .ok (.invokevirtual 283, 3) := by decide +kernel
theorem dX5_carryOut_30 : decode cX5_carryOut 30 = .ok (.invokevirtual 135, 3) := by decide +kernel
theorem dX5_carryOut_33 : decode cX5_carryOut 33 = .ok (.pop, 1) := by decide +kernel
theorem dX5_carryOut_34 : decode cX5_carryOut 34 = .ok (.iconst 1, 1) := by decide +kernel
theorem dX5_carryOut_35 : decode cX5_carryOut 35 = .ok (.ireturn, 1) := by decide +kernel
theorem dX5_carryOut_36 : decode cX5_carryOut 36 = .ok (.aload_n 0, 1) := by decide +kernel
theorem dX5_carryOut_37 : decode cX5_carryOut 37 = .ok (.getfield 32, 3) := by decide +kernel
theorem dX5_carryOut_40 : decode cX5_carryOut 40 = .ok (.iload_n 1, 1) := by decide +kernel
theorem dX5_carryOut_41 : decode cX5_carryOut 41 = .ok (.iconst 1, 1) := by decide +kernel
theorem dX5_carryOut_42 : decode cX5_carryOut 42 = .ok (.iadd, 1) := by decide +kernel
theorem dX5_carryOut_43 : decode cX5_carryOut 43 = .ok (.iload_n 1, 1) := by decide +kernel
theorem dX5_carryOut_44 : decode cX5_carryOut 44 = .ok (.iconst 2, 1) := by decide +kernel
theorem dX5_carryOut_45 : decode cX5_carryOut 45 = .ok (.iadd, 1) := by decide +kernel
theorem dX5_carryOut_46 : decode cX5_carryOut 46 = .ok (.invokevirtual 283, 3) := by decide +kernel
theorem dX5_carryOut_49 : decode cX5_carryOut 49 = .ok (.istore 4, 2) := by decide +kernel
theorem dX5_carryOut_51 : decode cX5_carryOut 51 = .ok (.iload_n 3, 1) := by decide +kernel
theorem dX5_carryOut_52 : decode cX5_carryOut 52 = .ok (.bipush 102, 2) := by decide +kernel
theorem dX5_carryOut_54 : decode cX5_carryOut 54 = .ok (.if_icmp .ne 30, 3) := by decide +kernel
theorem dX5_carryOut_57 : decode cX5_carryOut 57 = .ok (.aload_n 0, 1) := by decide +kernel
theorem dX5_carryOut_58 : decode cX5_carryOut 58 = .ok (.iload 4, 2) := by decide +kernel
theorem dX5_carryOut_60 : decode cX5_carryOut 60 = .ok (.aload_n 0, 1) := by decide +kernel
theorem dX5_carryOut_61 : decode cX5_carryOut 61 = .ok (.getfield 32, 3) := by decide +kernel
theorem dX5_carryOut_64 : decode cX5_carryOut 64 = .ok (.iload_n 1, 1) := by decide +kernel
theorem dX5_carryOut_65 : decode cX5_carryOut 65 = .ok (.iconst 2, 1) := by decide +kernel
theorem dX5_carryOut_66 : decode cX5_carryOut 66 = .ok (.iadd, 1) := by decide +kernel
theorem dX5_carryOut_67 : decode cX5_carryOut 67 = .ok (.invokevirtual 260, 3) := by decide +kernel
theorem dX5_carryOut_70 : decode cX5_carryOut 70 = .ok (.bipush 43, 2) := by decide +kernel
theorem dX5_carryOut_72 : decode cX5_carryOut 72 = .ok (.if_icmp .ne 7, 3) := by decide +kernel
theorem dX5_carryOut_75 : decode cX5_carryOut 75 = .ok (.iconst 1, 1) := by decide +kernel
theorem dX5_carryOut_76 : decode cX5_carryOut 76 = .ok (.goto 4, 3) := by decide +kernel
theorem dX5_carryOut_79 : decode cX5_carryOut 79 = .ok (.iconst 0, 1) := by decide +kernel
theorem dX5_carryOut_80 : decode cX5_carryOut 80 = .ok (.invokevirtual 286, 3) := by decide +kernel
theorem dX5_carryOut_83 : decode cX5_carryOut 83 = .ok (.ireturn, 1) := by decide +kernel
theorem dX5_carryOut_84 : decode cX5_carryOut 84 = .ok (.iload 4, 2) := by decide +kernel
theorem dX5_carryOut_86 : decode cX5_carryOut 86 = .ok (.invokestatic 265, 3) := by decide +kernel
theorem dX5_carryOut_89 : decode cX5_carryOut 89 = .ok (.ifCond .ne 5, 3) := by decide +kernel
theorem dX5_carryOut_92 : decode cX5_carryOut 92 = .ok (.iconst 0, 1) := by decide +kernel
theorem dX5_carryOut_93 : decode cX5_carryOut 93 = .ok (.ireturn, 1) := by decide +kernel
theorem dX5_carryOut_94 : decode cX5_carryOut 94 = .ok (.iload_n 3, 1) := by decide +kernel
theorem dX5_carryOut_95 : decode cX5_carryOut 95 = .ok (.bipush 115, 2) := by decide +kernel
theorem dX5_carryOut_97 : decode cX5_carryOut 97 = .ok (.if_icmp .ne 29, 3) := by decide +kernel
theorem dX5_carryOut_100 : decode cX5_carryOut 100 = .ok (.aload_n 0, 1) := by decide +kernel
theorem dX5_carryOut_101 : decode cX5_carryOut 101 = .ok (.getfield 10, 3) := by decide +kernel
theorem dX5_carryOut_104 : decode cX5_carryOut 104 = .ok (.getfield 44, 3) := by decide +kernel
theorem dX5_carryOut_107 : decode cX5_carryOut 107 = .ok (.iload 4, 2) := by decide +kernel
theorem dX5_carryOut_109 : decode cX5_carryOut 109 = .ok (.aaload, 1) := by decide +kernel
theorem dX5_carryOut_110 : decode cX5_carryOut 110 = .ok (.aload_n 0, 1) := by decide +kernel
theorem dX5_carryOut_111 : decode cX5_carryOut 111 = .ok (.getfield 32, 3) := by decide +kernel
theorem dX5_carryOut_114 : decode cX5_carryOut 114 = .ok (.iload_n 1, 1) := by decide +kernel
theorem dX5_carryOut_115 : decode cX5_carryOut 115 = .ok (.iconst 3, 1) := by decide +kernel
theorem dX5_carryOut_116 : decode cX5_carryOut 116 = .ok (.iadd, 1) := by decide +kernel
theorem dX5_carryOut_117 : decode cX5_carryOut 117 = .ok (.iload_n 2, 1) := by decide +kernel
theorem dX5_carryOut_118 : decode cX5_carryOut 118 = .ok (.invokevirtual 283, 3) := by decide +kernel
theorem dX5_carryOut_121 : decode cX5_carryOut 121 = .ok (.putfield 72, 3) := by decide +kernel
theorem dX5_carryOut_124 : decode cX5_carryOut 124 = .ok (.iconst 1, 1) := by decide +kernel
theorem dX5_carryOut_125 : decode cX5_carryOut 125 = .ok (.ireturn, 1) := by decide +kernel
theorem dX5_carryOut_126 : decode cX5_carryOut 126 = .ok (.aload_n 0, 1) := by decide +kernel
theorem dX5_carryOut_127 : decode cX5_carryOut 127 = .ok (.iload_n 3, 1) := by decide +kernel
theorem dX5_carryOut_128 : decode cX5_carryOut 128 = .ok (.iload 4, 2) := by decide +kernel
theorem dX5_carryOut_130 : decode cX5_carryOut 130 = .ok (.invokevirtual 290, 3) := by decide +kernel
theorem dX5_carryOut_133 : decode cX5_carryOut 133 = .ok (.ireturn, 1) := by decide +kernel
set_option maxRecDepth 100000 in
theorem ggX5_switchFeeder_X5_isFeeder : GoodIn wsX5_switchFeeder wsX5_isFeeder := goodIn_r _ [7] rfl (by decide +kernel)
set_option maxRecDepth 100000 in
theorem gX5_switchFeeder_X5_isFeeder : GoodIn wsX5_switchFeeder (va_wsS RX5 274 yX5_isFeeder wsX5_isFeeder) := goodIn_app (goodIn_r _ [4, 5, 6] rfl (by decide +kernel)) ggX5_switchFeeder_X5_isFeeder
theorem dX5_switchFeeder_0 : decode cX5_switchFeeder 0 = .ok (.iload_n 1, 1) := by decide +kernel
theorem dX5_switchFeeder_1 : decode cX5_switchFeeder 1 = .ok (.invokestatic 274, 3) := by decide +kernel
theorem dX5_switchFeeder_4 : decode cX5_switchFeeder 4 = .ok (.ifCond .ne 5, 3) := by decide +kernel
theorem dX5_switchFeeder_7 : decode cX5_switchFeeder 7 = .ok (.iconst 0, 1) := by decide +kernel
theorem dX5_switchFeeder_8 : decode cX5_switchFeeder 8 = .ok (.ireturn, 1) := by decide +kernel
theorem dX5_switchFeeder_9 : decode cX5_switchFeeder 9 = .ok (.aload_n 0, 1) := by decide +kernel
theorem dX5_switchFeeder_10 : decode cX5_switchFeeder 10 = .ok (.getfield 10, 3) := by decide +kernel
theorem dX5_switchFeeder_13 : decode cX5_switchFeeder 13 = .ok (.getfield 119, 3) := by decide +kernel
theorem dX5_switchFeeder_16 : decode cX5_switchFeeder 16 = .ok (.iload_n 1, 1) := by decide +kernel
theorem dX5_switchFeeder_17 : decode cX5_switchFeeder 17 = .ok (.aaload, 1) := by decide +kernel
theorem dX5_switchFeeder_18 : decode cX5_switchFeeder 18 = .ok (.iload_n 2, 1) := by decide +kernel
theorem dX5_switchFeeder_19 : decode cX5_switchFeeder 19 = .ok (.putfield 128, 3) := by decide +kernel
theorem dX5_switchFeeder_22 : decode cX5_switchFeeder 22 = .ok (.iconst 1, 1) := by decide +kernel
theorem dX5_switchFeeder_23 : decode cX5_switchFeeder 23 = .ok (.ireturn, 1) := by decide +kernel
set_option maxRecDepth 100000 in
theorem ggX5_commandSet_X1_canStart : GoodIn wsX5_commandSet wsX1_canStart := goodIn_r _ [8, 9, 96, 97, 98, 99, 100, 101, 102, 103, 104, 105] rfl (by decide +kernel)
set_option maxRecDepth 100000 in
theorem gX5_commandSet_X1_canStart : GoodIn wsX5_commandSet (wsV RX5 75 RX1 yX1_canStart wsX1_canStart) := goodIn_app (goodIn_r _ [4, 5, 6, 7] rfl (by decide +kernel)) ggX5_commandSet_X1_canStart
set_option maxRecDepth 100000 in
theorem ggX5_commandSet_X1_start : GoodIn wsX5_commandSet wsX1_start := goodIn_r _ [13, 9, 14, 15, 16, 7, 17, 18, 19, 20, 96, 97, 98, 99, 100, 101, 102, 103, 104, 105] rfl (by decide +kernel)
set_option maxRecDepth 100000 in
theorem gX5_commandSet_X1_start : GoodIn wsX5_commandSet (wsV RX5 81 RX1 yX1_start wsX1_start) := goodIn_app (goodIn_r _ [10, 11, 12, 7] rfl (by decide +kernel)) ggX5_commandSet_X1_start
set_option maxRecDepth 100000 in
theorem ggX5_commandSet_X1_canStop : GoodIn wsX5_commandSet wsX1_canStop := goodIn_r _ [24, 9, 25, 96, 97, 98, 99, 100, 101, 102, 103, 104, 105] rfl (by decide +kernel)
set_option maxRecDepth 100000 in
theorem gX5_commandSet_X1_canStop : GoodIn wsX5_commandSet (wsV RX5 88 RX1 yX1_canStop wsX1_canStop) := goodIn_app (goodIn_r _ [21, 22, 23, 7] rfl (by decide +kernel)) ggX5_commandSet_X1_canStop
set_option maxRecDepth 100000 in
theorem ggX5_commandSet_X1_stop : GoodIn wsX5_commandSet wsX1_stop := goodIn_r _ [29, 9, 14, 15, 16, 7, 17, 18, 19, 20, 96, 97, 98, 99, 100, 101, 102, 103, 104, 105] rfl (by decide +kernel)
set_option maxRecDepth 100000 in
theorem gX5_commandSet_X1_stop : GoodIn wsX5_commandSet (wsV RX5 93 RX1 yX1_stop wsX1_stop) := goodIn_app (goodIn_r _ [26, 27, 28, 7] rfl (by decide +kernel)) ggX5_commandSet_X1_stop
set_option maxRecDepth 100000 in
theorem ggX5_commandSet_X0_whyNotClosed : GoodIn wsX5_commandSet wsX0_whyNotClosed := goodIn_r _ [34, 35, 36, 37, 38, 39, 40, 41, 42, 43, 44, 45, 46, 33, 47, 48, 49, 50, 51, 52, 53, 54, 55, 56, 57, 58, 59, 60, 61, 62, 63, 64, 65, 7, 66, 25, 67, 68, 69, 70, 71, 72, 73, 18, 74, 75, 76, 91, 92, 93, 94, 95, 96, 97, 98, 99, 100, 101, 102, 103, 104, 105, 106, 107, 108] rfl (by decide +kernel)
set_option maxRecDepth 100000 in
theorem gX5_commandSet_X0_whyNotClosed : GoodIn wsX5_commandSet (wsV RX5 96 RX0 yX0_whyNotClosed wsX0_whyNotClosed) := goodIn_app (goodIn_r _ [30, 31, 32, 33] rfl (by decide +kernel)) ggX5_commandSet_X0_whyNotClosed
set_option maxRecDepth 100000 in
theorem ggX5_commandSet_X1_closeBreaker : GoodIn wsX5_commandSet wsX1_closeBreaker := goodIn_r _ [80, 25, 14, 15, 16, 7, 17, 18, 19, 20, 96, 97, 98, 99, 100, 101, 102, 103, 104, 105] rfl (by decide +kernel)
set_option maxRecDepth 100000 in
theorem gX5_commandSet_X1_closeBreaker : GoodIn wsX5_commandSet (wsV RX5 102 RX1 yX1_closeBreaker wsX1_closeBreaker) := goodIn_app (goodIn_r _ [77, 78, 79, 7] rfl (by decide +kernel)) ggX5_commandSet_X1_closeBreaker
set_option maxRecDepth 100000 in
theorem ggX5_commandSet_X1_openBreaker : GoodIn wsX5_commandSet wsX1_openBreaker := goodIn_r _ [84, 25, 14, 15, 16, 7, 17, 18, 19, 20, 96, 97, 98, 99, 100, 101, 102, 103, 104, 105] rfl (by decide +kernel)
set_option maxRecDepth 100000 in
theorem gX5_commandSet_X1_openBreaker : GoodIn wsX5_commandSet (wsV RX5 113 RX1 yX1_openBreaker wsX1_openBreaker) := goodIn_app (goodIn_r _ [81, 82, 83, 7] rfl (by decide +kernel)) ggX5_commandSet_X1_openBreaker
theorem dX5_commandSet_0 : decode cX5_commandSet 0 = .ok (.aload_n 0, 1) := by decide +kernel
theorem dX5_commandSet_1 : decode cX5_commandSet 1 = .ok (.getfield 10, 3) := by decide +kernel
theorem dX5_commandSet_4 : decode cX5_commandSet 4 = .ok (.getfield 44, 3) := by decide +kernel
theorem dX5_commandSet_7 : decode cX5_commandSet 7 = .ok (.iload_n 2, 1) := by decide +kernel
theorem dX5_commandSet_8 : decode cX5_commandSet 8 = .ok (.aaload, 1) := by decide +kernel
theorem dX5_commandSet_9 : decode cX5_commandSet 9 = .ok (.astore_n 3, 1) := by decide +kernel
theorem dX5_commandSet_10 : decode cX5_commandSet 10 = .ok (.iload_n 1, 1) := by decide +kernel
theorem dX5_commandSet_11 : decode cX5_commandSet 11 = .ok (.lookupswitch 82 #[(99, 63), (104, 48), (114, 33)], 33) := by decide +kernel
theorem dX5_commandSet_44 : decode cX5_commandSet 44 = .ok (.aload_n 3, 1) := by decide +kernel
theorem dX5_commandSet_45 : decode cX5_commandSet 45 = .ok (.invokevirtual 75, 3) := by decide +kernel
theorem dX5_commandSet_48 : decode cX5_commandSet 48 = .ok (.ifCond .ne 5, 3) := by decide +kernel
theorem dX5_commandSet_51 : decode cX5_commandSet 51 = .ok (.iconst 0, 1) := by decide +kernel
theorem dX5_commandSet_52 : decode cX5_commandSet 52 = .ok (.ireturn, 1) := by decide +kernel
theorem dX5_commandSet_53 : decode cX5_commandSet 53 = .ok (.aload_n 3, 1) := by decide +kernel
theorem dX5_commandSet_54 : decode cX5_commandSet 54 = .ok (.invokevirtual 81, 3) := by decide +kernel
theorem dX5_commandSet_57 : decode cX5_commandSet 57 = .ok (.iconst 1, 1) := by decide +kernel
theorem dX5_commandSet_58 : decode cX5_commandSet 58 = .ok (.ireturn, 1) := by decide +kernel
theorem dX5_commandSet_59 : decode cX5_commandSet 59 = .ok (.aload_n 3, 1) := by decide +kernel
theorem dX5_commandSet_60 : decode cX5_commandSet 60 = .ok (.invokevirtual 88, 3) := by decide +kernel
theorem dX5_commandSet_63 : decode cX5_commandSet 63 = .ok (.ifCond .ne 5, 3) := by decide +kernel
theorem dX5_commandSet_66 : decode cX5_commandSet 66 = .ok (.iconst 0, 1) := by decide +kernel
theorem dX5_commandSet_67 : decode cX5_commandSet 67 = .ok (.ireturn, 1) := by decide +kernel
theorem dX5_commandSet_68 : decode cX5_commandSet 68 = .ok (.aload_n 3, 1) := by decide +kernel
theorem dX5_commandSet_69 : decode cX5_commandSet 69 = .ok (.invokevirtual 93, 3) := by decide +kernel
theorem dX5_commandSet_72 : decode cX5_commandSet 72 = .ok (.iconst 1, 1) := by decide +kernel
theorem dX5_commandSet_73 : decode cX5_commandSet 73 = .ok (.ireturn, 1) := by decide +kernel
theorem dX5_commandSet_74 : decode cX5_commandSet 74 = .ok (.aload_n 0, 1) := by decide +kernel
theorem dX5_commandSet_75 : decode cX5_commandSet 75 = .ok (.getfield 10, 3) := by decide +kernel
theorem dX5_commandSet_78 : decode cX5_commandSet 78 = .ok (.iload_n 2, 1) := by decide +kernel
theorem dX5_commandSet_79 : decode cX5_commandSet 79 = .ok (.invokevirtual 96, 3) := by decide +kernel
theorem dX5_commandSet_82 : decode cX5_commandSet 82 = .ok (.ifCond .eq 5, 3) := by decide +kernel
theorem dX5_commandSet_85 : decode cX5_commandSet 85 = .ok (.iconst 0, 1) := by decide +kernel
theorem dX5_commandSet_86 : decode cX5_commandSet 86 = .ok (.ireturn, 1) := by decide +kernel
theorem dX5_commandSet_87 : decode cX5_commandSet 87 = .ok (.aload_n 3, 1) := by decide +kernel
theorem dX5_commandSet_88 : decode cX5_commandSet 88 = .ok (.invokevirtual 102, 3) := by decide +kernel
theorem dX5_commandSet_91 : decode cX5_commandSet 91 = .ok (.iconst 1, 1) := by decide +kernel
theorem dX5_commandSet_92 : decode cX5_commandSet 92 = .ok (.ireturn, 1) := by decide +kernel
theorem dX5_commandSet_93 : decode cX5_commandSet 93 = .ok (.aload_n 3, 1) := by decide +kernel
theorem dX5_commandSet_94 : decode cX5_commandSet 94 = .ok (.getfield 108, 3) := by decide +kernel
theorem dX5_commandSet_97 : decode cX5_commandSet 97 = .ok (.ifCond .ne 5, 3) := by decide +kernel
theorem dX5_commandSet_100 : decode cX5_commandSet 100 = .ok (.iconst 0, 1) := by decide +kernel
theorem dX5_commandSet_101 : decode cX5_commandSet 101 = .ok (.ireturn, 1) := by decide +kernel
theorem dX5_commandSet_102 : decode cX5_commandSet 102 = .ok (.aload_n 3, 1) := by decide +kernel
theorem dX5_commandSet_103 : decode cX5_commandSet 103 = .ok (.invokevirtual 113, 3) := by decide +kernel
theorem dX5_commandSet_106 : decode cX5_commandSet 106 = .ok (.iconst 1, 1) := by decide +kernel
theorem dX5_commandSet_107 : decode cX5_commandSet 107 = .ok (.ireturn, 1) := by decide +kernel
set_option maxRecDepth 100000 in
theorem ggX5_tellOfSet_X5_oneIf : GoodIn wsX5_tellOfSet wsX5_oneIf := goodIn_r _ [16] rfl (by decide +kernel)
set_option maxRecDepth 100000 in
theorem gX5_tellOfSet_X5_oneIf : GoodIn wsX5_tellOfSet (va_wsS RX5 131 yX5_oneIf wsX5_oneIf) := goodIn_app (goodIn_r _ [13, 14, 15] rfl (by decide +kernel)) ggX5_tellOfSet_X5_oneIf
set_option maxRecDepth 100000 in
theorem ggX5_tellOfSet_X0_frequency : GoodIn wsX5_tellOfSet wsX0_frequency := goodIn_r _ [21, 22, 23, 24, 20, 25, 26, 27, 28, 29, 30, 31, 32, 33, 34, 35, 36, 37, 38, 39, 40, 41, 42, 43, 44, 45, 46, 47, 86, 87, 88, 89, 90, 91, 92, 93, 94, 95, 96, 97, 98, 99, 100, 101, 102, 103] rfl (by decide +kernel)
set_option maxRecDepth 100000 in
theorem gX5_tellOfSet_X0_frequency : GoodIn wsX5_tellOfSet (wsV RX5 105 RX0 yX0_frequency wsX0_frequency) := goodIn_app (goodIn_r _ [17, 18, 19, 20] rfl (by decide +kernel)) ggX5_tellOfSet_X0_frequency
set_option maxRecDepth 100000 in
theorem ggX5_tellOfSet_X0_power : GoodIn wsX5_tellOfSet wsX0_power := goodIn_r _ [51, 26, 52, 53, 54, 55, 39, 40, 41, 42, 43, 44, 45, 46, 47, 56, 57, 58, 20, 59, 27, 35, 36, 37, 38, 28, 29, 30, 31, 32, 33, 34, 22, 23, 24, 25, 86, 87, 88, 89, 90, 91, 92, 93, 94, 95, 96, 97, 98, 99, 100, 101, 102, 103] rfl (by decide +kernel)
set_option maxRecDepth 100000 in
theorem gX5_tellOfSet_X0_power : GoodIn wsX5_tellOfSet (wsV RX5 293 RX0 yX0_power wsX0_power) := goodIn_app (goodIn_r _ [48, 49, 50, 20] rfl (by decide +kernel)) ggX5_tellOfSet_X0_power
set_option maxRecDepth 100000 in
theorem ggX5_tellOfSet_X1_lamps : GoodIn wsX5_tellOfSet wsX1_lamps := goodIn_r _ [63, 64, 65, 66, 54, 67, 91, 92, 93, 94, 95, 96, 97, 98, 99, 100] rfl (by decide +kernel)
set_option maxRecDepth 100000 in
theorem gX5_tellOfSet_X1_lamps : GoodIn wsX5_tellOfSet (wsV RX5 299 RX1 yX1_lamps wsX1_lamps) := goodIn_app (goodIn_r _ [60, 61, 62, 42] rfl (by decide +kernel)) ggX5_tellOfSet_X1_lamps
set_option maxRecDepth 100000 in
theorem ggX5_tellOfSet_X0_whyNotClosed : GoodIn wsX5_tellOfSet wsX0_whyNotClosed := goodIn_r _ [71, 26, 72, 27, 73, 74, 75, 54, 76, 77, 22, 23, 24, 20, 25, 78, 18, 19, 21, 28, 29, 30, 31, 32, 33, 34, 35, 36, 37, 38, 39, 40, 41, 42, 43, 44, 45, 46, 47, 79, 61, 62, 63, 64, 65, 66, 67, 86, 87, 88, 89, 90, 91, 92, 93, 94, 95, 96, 97, 98, 99, 100, 101, 102, 103] rfl (by decide +kernel)
set_option maxRecDepth 100000 in
theorem gX5_tellOfSet_X0_whyNotClosed : GoodIn wsX5_tellOfSet (wsV RX5 96 RX0 yX0_whyNotClosed wsX0_whyNotClosed) := goodIn_app (goodIn_r _ [68, 69, 70, 20] rfl (by decide +kernel)) ggX5_tellOfSet_X0_whyNotClosed
theorem dX5_tellOfSet_0 : decode cX5_tellOfSet 0 = .ok (.aload_n 0, 1) := by decide +kernel
theorem dX5_tellOfSet_1 : decode cX5_tellOfSet 1 = .ok (.getfield 10, 3) := by decide +kernel
theorem dX5_tellOfSet_4 : decode cX5_tellOfSet 4 = .ok (.getfield 44, 3) := by decide +kernel
theorem dX5_tellOfSet_7 : decode cX5_tellOfSet 7 = .ok (.iload_n 1, 1) := by decide +kernel
theorem dX5_tellOfSet_8 : decode cX5_tellOfSet 8 = .ok (.aaload, 1) := by decide +kernel
theorem dX5_tellOfSet_9 : decode cX5_tellOfSet 9 = .ok (.astore_n 3, 1) := by decide +kernel
theorem dX5_tellOfSet_10 : decode cX5_tellOfSet 10 = .ok (.iload_n 2, 1) := by decide +kernel
theorem dX5_tellOfSet_11 : decode cX5_tellOfSet 11 = .ok (.tableswitch 138 0 11 #[61, 66, 71, 76, 84, 92, 108, 113, 118, 123, 128, 133], 61) := by decide +kernel
theorem dX5_tellOfSet_72 : decode cX5_tellOfSet 72 = .ok (.aload_n 3, 1) := by decide +kernel
theorem dX5_tellOfSet_73 : decode cX5_tellOfSet 73 = .ok (.getfield 65, 3) := by decide +kernel
theorem dX5_tellOfSet_76 : decode cX5_tellOfSet 76 = .ok (.ireturn, 1) := by decide +kernel
theorem dX5_tellOfSet_77 : decode cX5_tellOfSet 77 = .ok (.aload_n 3, 1) := by decide +kernel
theorem dX5_tellOfSet_78 : decode cX5_tellOfSet 78 = .ok (.getfield 69, 3) := by decide +kernel
theorem dX5_tellOfSet_81 : decode cX5_tellOfSet 81 = .ok (.ireturn, 1) := by decide +kernel
theorem dX5_tellOfSet_82 : decode cX5_tellOfSet 82 = .ok (.aload_n 3, 1) := by decide +kernel
theorem dX5_tellOfSet_83 : decode cX5_tellOfSet 83 = .ok (.getfield 72, 3) := by decide +kernel
theorem dX5_tellOfSet_86 : decode cX5_tellOfSet 86 = .ok (.ireturn, 1) := by decide +kernel
theorem dX5_tellOfSet_87 : decode cX5_tellOfSet 87 = .ok (.aload_n 3, 1) := by decide +kernel
theorem dX5_tellOfSet_88 : decode cX5_tellOfSet 88 = .ok (.getfield 48, 3) := by decide +kernel
theorem dX5_tellOfSet_91 : decode cX5_tellOfSet 91 = .ok (.invokestatic 131, 3) := by decide +kernel
theorem dX5_tellOfSet_94 : decode cX5_tellOfSet 94 = .ok (.ireturn, 1) := by decide +kernel
theorem dX5_tellOfSet_95 : decode cX5_tellOfSet 95 = .ok (.aload_n 3, 1) := by decide +kernel
theorem dX5_tellOfSet_96 : decode cX5_tellOfSet 96 = .ok (.getfield 108, 3) := by decide +kernel
theorem dX5_tellOfSet_99 : decode cX5_tellOfSet 99 = .ok (.invokestatic 131, 3) := by decide +kernel
theorem dX5_tellOfSet_102 : decode cX5_tellOfSet 102 = .ok (.ireturn, 1) := by decide +kernel
theorem dX5_tellOfSet_103 : decode cX5_tellOfSet 103 = .ok (.aload_n 0, 1) := by decide +kernel
theorem dX5_tellOfSet_104 : decode cX5_tellOfSet 104 = .ok (.getfield 10, 3) := by decide +kernel
theorem dX5_tellOfSet_107 : decode cX5_tellOfSet 107 = .ok (.iload_n 1, 1) := by decide +kernel
theorem dX5_tellOfSet_108 : decode cX5_tellOfSet 108 = .ok (.aload_n 0, 1) := by decide +kernel
theorem dX5_tellOfSet_109 : decode cX5_tellOfSet 109 = .ok (.getfield 10, 3) := by decide +kernel
theorem dX5_tellOfSet_112 : decode cX5_tellOfSet 112 = .ok (.invokevirtual 105, 3) := by decide +kernel
theorem dX5_tellOfSet_115 : decode cX5_tellOfSet 115 = .ok (.invokevirtual 293, 3) := by decide +kernel
theorem dX5_tellOfSet_118 : decode cX5_tellOfSet 118 = .ok (.ireturn, 1) := by decide +kernel
theorem dX5_tellOfSet_119 : decode cX5_tellOfSet 119 = .ok (.aload_n 3, 1) := by decide +kernel
theorem dX5_tellOfSet_120 : decode cX5_tellOfSet 120 = .ok (.getfield 296, 3) := by decide +kernel
theorem dX5_tellOfSet_123 : decode cX5_tellOfSet 123 = .ok (.ireturn, 1) := by decide +kernel
theorem dX5_tellOfSet_124 : decode cX5_tellOfSet 124 = .ok (.aload_n 3, 1) := by decide +kernel
theorem dX5_tellOfSet_125 : decode cX5_tellOfSet 125 = .ok (.invokevirtual 299, 3) := by decide +kernel
theorem dX5_tellOfSet_128 : decode cX5_tellOfSet 128 = .ok (.ireturn, 1) := by decide +kernel
theorem dX5_tellOfSet_129 : decode cX5_tellOfSet 129 = .ok (.aload_n 3, 1) := by decide +kernel
theorem dX5_tellOfSet_130 : decode cX5_tellOfSet 130 = .ok (.getfield 302, 3) := by decide +kernel
theorem dX5_tellOfSet_133 : decode cX5_tellOfSet 133 = .ok (.ireturn, 1) := by decide +kernel
theorem dX5_tellOfSet_134 : decode cX5_tellOfSet 134 = .ok (.aload_n 3, 1) := by decide +kernel
theorem dX5_tellOfSet_135 : decode cX5_tellOfSet 135 = .ok (.getfield 305, 3) := by decide +kernel
theorem dX5_tellOfSet_138 : decode cX5_tellOfSet 138 = .ok (.ireturn, 1) := by decide +kernel
theorem dX5_tellOfSet_139 : decode cX5_tellOfSet 139 = .ok (.aload_n 3, 1) := by decide +kernel
theorem dX5_tellOfSet_140 : decode cX5_tellOfSet 140 = .ok (.getfield 308, 3) := by decide +kernel
theorem dX5_tellOfSet_143 : decode cX5_tellOfSet 143 = .ok (.ireturn, 1) := by decide +kernel
theorem dX5_tellOfSet_144 : decode cX5_tellOfSet 144 = .ok (.aload_n 3, 1) := by decide +kernel
theorem dX5_tellOfSet_145 : decode cX5_tellOfSet 145 = .ok (.getfield 309, 3) := by decide +kernel
theorem dX5_tellOfSet_148 : decode cX5_tellOfSet 148 = .ok (.ireturn, 1) := by decide +kernel
theorem dX5_tellOfSet_149 : decode cX5_tellOfSet 149 = .ok (.aload_n 0, 1) := by decide +kernel
theorem dX5_tellOfSet_150 : decode cX5_tellOfSet 150 = .ok (.getfield 10, 3) := by decide +kernel
theorem dX5_tellOfSet_153 : decode cX5_tellOfSet 153 = .ok (.iload_n 1, 1) := by decide +kernel
theorem dX5_tellOfSet_154 : decode cX5_tellOfSet 154 = .ok (.invokevirtual 96, 3) := by decide +kernel
theorem dX5_tellOfSet_157 : decode cX5_tellOfSet 157 = .ok (.ireturn, 1) := by decide +kernel
set_option maxRecDepth 100000 in
theorem ggX5_tellOfFeeder_X5_oneIf : GoodIn wsX5_tellOfFeeder wsX5_oneIf := goodIn_r _ [9] rfl (by decide +kernel)
set_option maxRecDepth 100000 in
theorem gX5_tellOfFeeder_X5_oneIf : GoodIn wsX5_tellOfFeeder (va_wsS RX5 131 yX5_oneIf wsX5_oneIf) := goodIn_app (goodIn_r _ [6, 7, 8] rfl (by decide +kernel)) ggX5_tellOfFeeder_X5_oneIf
theorem dX5_tellOfFeeder_0 : decode cX5_tellOfFeeder 0 = .ok (.iload_n 2, 1) := by decide +kernel
theorem dX5_tellOfFeeder_1 : decode cX5_tellOfFeeder 1 = .ok (.lookupswitch 56 #[(0, 27), (1, 40)], 27) := by decide +kernel
theorem dX5_tellOfFeeder_28 : decode cX5_tellOfFeeder 28 = .ok (.aload_n 0, 1) := by decide +kernel
theorem dX5_tellOfFeeder_29 : decode cX5_tellOfFeeder 29 = .ok (.getfield 10, 3) := by decide +kernel
theorem dX5_tellOfFeeder_32 : decode cX5_tellOfFeeder 32 = .ok (.getfield 119, 3) := by decide +kernel
theorem dX5_tellOfFeeder_35 : decode cX5_tellOfFeeder 35 = .ok (.iload_n 1, 1) := by decide +kernel
theorem dX5_tellOfFeeder_36 : decode cX5_tellOfFeeder 36 = .ok (.aaload, 1) := by decide +kernel
theorem dX5_tellOfFeeder_37 : decode cX5_tellOfFeeder 37 = .ok (.getfield 123, 3) := by decide +kernel
theorem dX5_tellOfFeeder_40 : decode cX5_tellOfFeeder 40 = .ok (.ireturn, 1) := by decide +kernel
theorem dX5_tellOfFeeder_41 : decode cX5_tellOfFeeder 41 = .ok (.aload_n 0, 1) := by decide +kernel
theorem dX5_tellOfFeeder_42 : decode cX5_tellOfFeeder 42 = .ok (.getfield 10, 3) := by decide +kernel
theorem dX5_tellOfFeeder_45 : decode cX5_tellOfFeeder 45 = .ok (.getfield 119, 3) := by decide +kernel
theorem dX5_tellOfFeeder_48 : decode cX5_tellOfFeeder 48 = .ok (.iload_n 1, 1) := by decide +kernel
theorem dX5_tellOfFeeder_49 : decode cX5_tellOfFeeder 49 = .ok (.aaload, 1) := by decide +kernel
theorem dX5_tellOfFeeder_50 : decode cX5_tellOfFeeder 50 = .ok (.getfield 128, 3) := by decide +kernel
theorem dX5_tellOfFeeder_53 : decode cX5_tellOfFeeder 53 = .ok (.invokestatic 131, 3) := by decide +kernel
theorem dX5_tellOfFeeder_56 : decode cX5_tellOfFeeder 56 = .ok (.ireturn, 1) := by decide +kernel
theorem dX5_tellOfFeeder_57 : decode cX5_tellOfFeeder 57 = .ok (.aload_n 0, 1) := by decide +kernel
theorem dX5_tellOfFeeder_58 : decode cX5_tellOfFeeder 58 = .ok (.getfield 10, 3) := by decide +kernel
theorem dX5_tellOfFeeder_61 : decode cX5_tellOfFeeder 61 = .ok (.getfield 119, 3) := by decide +kernel
theorem dX5_tellOfFeeder_64 : decode cX5_tellOfFeeder 64 = .ok (.iload_n 1, 1) := by decide +kernel
theorem dX5_tellOfFeeder_65 : decode cX5_tellOfFeeder 65 = .ok (.aaload, 1) := by decide +kernel
theorem dX5_tellOfFeeder_66 : decode cX5_tellOfFeeder 66 = .ok (.getfield 312, 3) := by decide +kernel
theorem dX5_tellOfFeeder_69 : decode cX5_tellOfFeeder 69 = .ok (.ireturn, 1) := by decide +kernel
set_option maxRecDepth 100000 in
theorem ggX5_tellCount_X0_frequencyDownwards : GoodIn wsX5_tellCount wsX0_frequencyDownwards := goodIn_r _ [10, 11, 12, 13, 9, 14, 15, 16, 17, 18, 19, 20, 21, 22, 23, 24, 25, 26, 27, 28, 29, 30, 31, 32, 33, 34, 35, 36, 90, 91, 92, 93, 94, 97, 98, 99, 100, 101, 102, 103, 104, 105, 106, 107, 108, 109] rfl (by decide +kernel)
set_option maxRecDepth 100000 in
theorem gX5_tellCount_X0_frequencyDownwards : GoodIn wsX5_tellCount (wsV RX5 315 RX0 yX0_frequencyDownwards wsX0_frequencyDownwards) := goodIn_app (goodIn_r _ [6, 7, 8, 9] rfl (by decide +kernel)) ggX5_tellCount_X0_frequencyDownwards
set_option maxRecDepth 100000 in
theorem ggX5_tellCount_X0_frequency : GoodIn wsX5_tellCount wsX0_frequency := goodIn_r _ [40, 11, 12, 13, 9, 14, 15, 16, 17, 18, 19, 20, 21, 22, 23, 24, 25, 26, 27, 28, 29, 30, 31, 32, 33, 34, 35, 36, 90, 91, 92, 93, 94, 97, 98, 99, 100, 101, 102, 103, 104, 105, 106, 107, 108, 109] rfl (by decide +kernel)
set_option maxRecDepth 100000 in
theorem gX5_tellCount_X0_frequency : GoodIn wsX5_tellCount (wsV RX5 105 RX0 yX0_frequency wsX0_frequency) := goodIn_app (goodIn_r _ [37, 38, 39, 9] rfl (by decide +kernel)) ggX5_tellCount_X0_frequency
set_option maxRecDepth 100000 in
theorem ggX5_tellCount_X0_demand : GoodIn wsX5_tellCount wsX0_demand := goodIn_r _ [20, 21, 22, 23, 11, 12, 13, 9, 14, 15, 16, 90, 91, 92, 93, 94, 107, 108, 109, 97, 98, 99, 100, 101, 102, 103, 104, 105, 106] rfl (by decide +kernel)
set_option maxRecDepth 100000 in
theorem gX5_tellCount_X0_demand : GoodIn wsX5_tellCount (wsV RX5 225 RX0 yX0_demand wsX0_demand) := goodIn_app (goodIn_r _ [41, 18, 19, 9] rfl (by decide +kernel)) ggX5_tellCount_X0_demand
set_option maxRecDepth 100000 in
theorem ggX5_tellCount_X0_powers : GoodIn wsX5_tellCount wsX0_powers := goodIn_r _ [45, 15, 46, 47, 48, 9, 49, 50, 51, 52, 53, 28, 29, 30, 31, 32, 33, 34, 35, 36, 54, 55, 56, 57, 16, 24, 25, 26, 27, 17, 18, 19, 20, 21, 22, 23, 11, 12, 13, 14, 90, 91, 92, 93, 94, 97, 98, 99, 100, 101, 102, 103, 104, 105, 106, 107, 108, 109] rfl (by decide +kernel)
set_option maxRecDepth 100000 in
theorem gX5_tellCount_X0_powers : GoodIn wsX5_tellCount (wsV RX5 318 RX0 yX0_powers wsX0_powers) := goodIn_app (goodIn_r _ [42, 43, 44, 9] rfl (by decide +kernel)) ggX5_tellCount_X0_powers
set_option maxRecDepth 100000 in
theorem ggX5_tellCount_X0_lack : GoodIn wsX5_tellCount wsX0_lack := goodIn_r _ [61, 50, 51, 52, 53, 17, 18, 19, 9, 20, 21, 22, 23, 11, 12, 13, 14, 15, 16, 24, 25, 26, 27, 28, 29, 30, 31, 32, 33, 34, 35, 36, 90, 91, 92, 93, 94, 107, 108, 109, 97, 98, 99, 100, 101, 102, 103, 104, 105, 106] rfl (by decide +kernel)
set_option maxRecDepth 100000 in
theorem gX5_tellCount_X0_lack : GoodIn wsX5_tellCount (wsV RX5 321 RX0 yX0_lack wsX0_lack) := goodIn_app (goodIn_r _ [58, 59, 60, 9] rfl (by decide +kernel)) ggX5_tellCount_X0_lack
set_option maxRecDepth 100000 in
theorem ggX5_tellCount_X0_running : GoodIn wsX5_tellCount wsX0_running := goodIn_r _ [65, 15, 66, 67, 68, 69, 90, 91, 92, 93, 94, 97, 98, 99, 100, 101, 102, 103, 104, 105, 106] rfl (by decide +kernel)
set_option maxRecDepth 100000 in
theorem gX5_tellCount_X0_running : GoodIn wsX5_tellCount (wsV RX5 84 RX0 yX0_running wsX0_running) := goodIn_app (goodIn_r _ [62, 63, 64, 9] rfl (by decide +kernel)) ggX5_tellCount_X0_running
set_option maxRecDepth 100000 in
theorem ggX5_tellCount_X0_closedBreakers : GoodIn wsX5_tellCount wsX0_closedBreakers := goodIn_r _ [73, 15, 16, 67, 68, 69, 90, 91, 92, 93, 94, 97, 98, 99, 100, 101, 102, 103, 104, 105, 106] rfl (by decide +kernel)
set_option maxRecDepth 100000 in
theorem gX5_tellCount_X0_closedBreakers : GoodIn wsX5_tellCount (wsV RX5 324 RX0 yX0_closedBreakers wsX0_closedBreakers) := goodIn_app (goodIn_r _ [70, 71, 72, 9] rfl (by decide +kernel)) ggX5_tellCount_X0_closedBreakers
set_option maxRecDepth 100000 in
theorem ggX5_tellCount_X0_trips : GoodIn wsX5_tellCount wsX0_trips := goodIn_r _ [77, 15, 78, 90, 91, 92, 93, 94, 97, 98, 99, 100, 101, 102, 103, 104, 105, 106] rfl (by decide +kernel)
set_option maxRecDepth 100000 in
theorem gX5_tellCount_X0_trips : GoodIn wsX5_tellCount (wsV RX5 327 RX0 yX0_trips wsX0_trips) := goodIn_app (goodIn_r _ [74, 75, 76, 9] rfl (by decide +kernel)) ggX5_tellCount_X0_trips
set_option maxRecDepth 100000 in
theorem ggX5_tellCount_X0_sheds : GoodIn wsX5_tellCount wsX0_sheds := goodIn_r _ [82, 21, 83, 90, 91, 92, 93, 94, 107, 108, 109] rfl (by decide +kernel)
set_option maxRecDepth 100000 in
theorem gX5_tellCount_X0_sheds : GoodIn wsX5_tellCount (wsV RX5 329 RX0 yX0_sheds wsX0_sheds) := goodIn_app (goodIn_r _ [79, 80, 81, 9] rfl (by decide +kernel)) ggX5_tellCount_X0_sheds
theorem dX5_tellCount_0 : decode cX5_tellCount 0 = .ok (.iload_n 1, 1) := by decide +kernel
theorem dX5_tellCount_1 : decode cX5_tellCount 1 = .ok (.tableswitch 161 0 10 #[59, 67, 75, 83, 91, 106, 121, 129, 137, 145, 153], 59) := by decide +kernel
theorem dX5_tellCount_60 : decode cX5_tellCount 60 = .ok (.aload_n 0, 1) := by decide +kernel
theorem dX5_tellCount_61 : decode cX5_tellCount 61 = .ok (.getfield 10, 3) := by decide +kernel
theorem dX5_tellCount_64 : decode cX5_tellCount 64 = .ok (.getfield 186, 3) := by decide +kernel
theorem dX5_tellCount_67 : decode cX5_tellCount 67 = .ok (.ireturn, 1) := by decide +kernel
theorem dX5_tellCount_68 : decode cX5_tellCount 68 = .ok (.aload_n 0, 1) := by decide +kernel
theorem dX5_tellCount_69 : decode cX5_tellCount 69 = .ok (.getfield 10, 3) := by decide +kernel
theorem dX5_tellCount_72 : decode cX5_tellCount 72 = .ok (.invokevirtual 315, 3) := by decide +kernel
theorem dX5_tellCount_75 : decode cX5_tellCount 75 = .ok (.ireturn, 1) := by decide +kernel
theorem dX5_tellCount_76 : decode cX5_tellCount 76 = .ok (.aload_n 0, 1) := by decide +kernel
theorem dX5_tellCount_77 : decode cX5_tellCount 77 = .ok (.getfield 10, 3) := by decide +kernel
theorem dX5_tellCount_80 : decode cX5_tellCount 80 = .ok (.invokevirtual 105, 3) := by decide +kernel
theorem dX5_tellCount_83 : decode cX5_tellCount 83 = .ok (.ireturn, 1) := by decide +kernel
theorem dX5_tellCount_84 : decode cX5_tellCount 84 = .ok (.aload_n 0, 1) := by decide +kernel
theorem dX5_tellCount_85 : decode cX5_tellCount 85 = .ok (.getfield 10, 3) := by decide +kernel
theorem dX5_tellCount_88 : decode cX5_tellCount 88 = .ok (.invokevirtual 225, 3) := by decide +kernel
theorem dX5_tellCount_91 : decode cX5_tellCount 91 = .ok (.ireturn, 1) := by decide +kernel
theorem dX5_tellCount_92 : decode cX5_tellCount 92 = .ok (.aload_n 0, 1) := by decide +kernel
theorem dX5_tellCount_93 : decode cX5_tellCount 93 = .ok (.getfield 10, 3) := by decide +kernel
theorem dX5_tellCount_96 : decode cX5_tellCount 96 = .ok (.aload_n 0, 1) := by decide +kernel
theorem dX5_tellCount_97 : decode cX5_tellCount 97 = .ok (.getfield 10, 3) := by decide +kernel
theorem dX5_tellCount_100 : decode cX5_tellCount 100 = .ok (.invokevirtual 105, 3) := by decide +kernel
theorem dX5_tellCount_103 : decode cX5_tellCount 103 = .ok (.invokevirtual 318, 3) := by decide +kernel
theorem dX5_tellCount_106 : decode cX5_tellCount 106 = .ok (.ireturn, 1) := by decide +kernel
theorem dX5_tellCount_107 : decode cX5_tellCount 107 = .ok (.aload_n 0, 1) := by decide +kernel
theorem dX5_tellCount_108 : decode cX5_tellCount 108 = .ok (.getfield 10, 3) := by decide +kernel
theorem dX5_tellCount_111 : decode cX5_tellCount 111 = .ok (.aload_n 0, 1) := by decide +kernel
theorem dX5_tellCount_112 : decode cX5_tellCount 112 = .ok (.getfield 10, 3) := by decide +kernel
theorem dX5_tellCount_115 : decode cX5_tellCount 115 = .ok (.invokevirtual 105, 3) := by decide +kernel
theorem dX5_tellCount_118 : decode cX5_tellCount 118 = .ok (.invokevirtual 321, 3) := by decide +kernel
theorem dX5_tellCount_121 : decode cX5_tellCount 121 = .ok (.ireturn, 1) := by decide +kernel
theorem dX5_tellCount_122 : decode cX5_tellCount 122 = .ok (.aload_n 0, 1) := by decide +kernel
theorem dX5_tellCount_123 : decode cX5_tellCount 123 = .ok (.getfield 10, 3) := by decide +kernel
theorem dX5_tellCount_126 : decode cX5_tellCount 126 = .ok (.invokevirtual 84, 3) := by decide +kernel
theorem dX5_tellCount_129 : decode cX5_tellCount 129 = .ok (.ireturn, 1) := by decide +kernel
theorem dX5_tellCount_130 : decode cX5_tellCount 130 = .ok (.aload_n 0, 1) := by decide +kernel
theorem dX5_tellCount_131 : decode cX5_tellCount 131 = .ok (.getfield 10, 3) := by decide +kernel
theorem dX5_tellCount_134 : decode cX5_tellCount 134 = .ok (.invokevirtual 324, 3) := by decide +kernel
theorem dX5_tellCount_137 : decode cX5_tellCount 137 = .ok (.ireturn, 1) := by decide +kernel
theorem dX5_tellCount_138 : decode cX5_tellCount 138 = .ok (.aload_n 0, 1) := by decide +kernel
theorem dX5_tellCount_139 : decode cX5_tellCount 139 = .ok (.getfield 10, 3) := by decide +kernel
theorem dX5_tellCount_142 : decode cX5_tellCount 142 = .ok (.invokevirtual 327, 3) := by decide +kernel
theorem dX5_tellCount_145 : decode cX5_tellCount 145 = .ok (.ireturn, 1) := by decide +kernel
theorem dX5_tellCount_146 : decode cX5_tellCount 146 = .ok (.aload_n 0, 1) := by decide +kernel
theorem dX5_tellCount_147 : decode cX5_tellCount 147 = .ok (.getfield 10, 3) := by decide +kernel
theorem dX5_tellCount_150 : decode cX5_tellCount 150 = .ok (.invokevirtual 329, 3) := by decide +kernel
theorem dX5_tellCount_153 : decode cX5_tellCount 153 = .ok (.ireturn, 1) := by decide +kernel
theorem dX5_tellCount_154 : decode cX5_tellCount 154 = .ok (.aload_n 0, 1) := by decide +kernel
theorem dX5_tellCount_155 : decode cX5_tellCount 155 = .ok (.getfield 10, 3) := by decide +kernel
theorem dX5_tellCount_158 : decode cX5_tellCount 158 = .ok (.getfield 228, 3) := by decide +kernel
theorem dX5_tellCount_161 : decode cX5_tellCount 161 = .ok (.ireturn, 1) := by decide +kernel
theorem dX5_tellCount_162 : decode cX5_tellCount 162 = .ok (.aload_n 0, 1) := by decide +kernel
theorem dX5_tellCount_163 : decode cX5_tellCount 163 = .ok (.getfield 25, 3) := by decide +kernel
theorem dX5_tellCount_166 : decode cX5_tellCount 166 = .ok (.getfield 191, 3) := by decide +kernel
theorem dX5_tellCount_169 : decode cX5_tellCount 169 = .ok (.ireturn, 1) := by decide +kernel
set_option maxRecDepth 100000 in
theorem ggX5_tellIfSpeed_X0_copyFrom : GoodIn wsX5_tellIfSpeed wsX0_copyFrom := goodIn_r _ [9, 10, 11, 12, 13, 14, 15, 16, 17, 18, 19, 20, 21, 22, 23, 24, 25, 26, 27, 28, 29, 30, 31, 32, 33, 34, 35, 36, 37, 83, 84, 85, 86, 87, 88, 89, 90, 91, 92, 93, 94, 95, 96, 97, 98, 99, 100] rfl (by decide +kernel)
set_option maxRecDepth 100000 in
theorem gX5_tellIfSpeed_X0_copyFrom : GoodIn wsX5_tellIfSpeed (wsV RX5 180 RX0 yX0_copyFrom wsX0_copyFrom) := goodIn_app (goodIn_r _ [5, 6, 7, 8] rfl (by decide +kernel)) ggX5_tellIfSpeed_X0_copyFrom
set_option maxRecDepth 100000 in
theorem ggX5_tellIfSpeed_X0_frequency : GoodIn wsX5_tellIfSpeed wsX0_frequency := goodIn_r _ [41, 42, 43, 44, 8, 45, 10, 46, 47, 48, 49, 50, 11, 51, 52, 53, 54, 55, 56, 57, 58, 59, 18, 60, 24, 21, 22, 20, 83, 84, 85, 86, 87, 88, 89, 90, 91, 92, 93, 94, 95, 96, 97, 98, 99, 100] rfl (by decide +kernel)
set_option maxRecDepth 100000 in
theorem gX5_tellIfSpeed_X0_frequency : GoodIn wsX5_tellIfSpeed (wsV RX5 105 RX0 yX0_frequency wsX0_frequency) := goodIn_app (goodIn_r _ [38, 39, 40, 8] rfl (by decide +kernel)) ggX5_tellIfSpeed_X0_frequency
set_option maxRecDepth 100000 in
theorem ggX5_tellIfSpeed_X0_power : GoodIn wsX5_tellIfSpeed wsX0_power := goodIn_r _ [64, 10, 65, 66, 67, 68, 57, 58, 59, 18, 60, 24, 21, 22, 20, 69, 70, 71, 8, 72, 46, 53, 54, 55, 56, 47, 48, 49, 50, 11, 51, 52, 42, 43, 44, 45, 83, 84, 85, 86, 87, 88, 89, 90, 91, 92, 93, 94, 95, 96, 97, 98, 99, 100] rfl (by decide +kernel)
set_option maxRecDepth 100000 in
theorem gX5_tellIfSpeed_X0_power : GoodIn wsX5_tellIfSpeed (wsV RX5 293 RX0 yX0_power wsX0_power) := goodIn_app (goodIn_r _ [61, 62, 63, 8] rfl (by decide +kernel)) ggX5_tellIfSpeed_X0_power
set_option maxRecDepth 100000 in
theorem ggX5_tellIfSpeed_X0_lack : GoodIn wsX5_tellIfSpeed wsX0_lack := goodIn_r _ [76, 65, 66, 67, 68, 47, 48, 49, 8, 50, 11, 51, 52, 42, 43, 44, 45, 10, 46, 53, 54, 55, 56, 57, 58, 59, 18, 60, 24, 21, 22, 20, 83, 84, 85, 86, 87, 98, 99, 100, 88, 89, 90, 91, 92, 93, 94, 95, 96, 97] rfl (by decide +kernel)
set_option maxRecDepth 100000 in
theorem gX5_tellIfSpeed_X0_lack : GoodIn wsX5_tellIfSpeed (wsV RX5 321 RX0 yX0_lack wsX0_lack) := goodIn_app (goodIn_r _ [73, 74, 75, 8] rfl (by decide +kernel)) ggX5_tellIfSpeed_X0_lack
theorem dX5_tellIfSpeed_0 : decode cX5_tellIfSpeed 0 = .ok (.aload_n 0, 1) := by decide +kernel
theorem dX5_tellIfSpeed_1 : decode cX5_tellIfSpeed 1 = .ok (.getfield 16, 3) := by decide +kernel
theorem dX5_tellIfSpeed_4 : decode cX5_tellIfSpeed 4 = .ok (.aload_n 0, 1) := by decide +kernel
theorem dX5_tellIfSpeed_5 : decode cX5_tellIfSpeed 5 = .ok (.getfield 10, 3) := by decide +kernel
theorem dX5_tellIfSpeed_8 : decode cX5_tellIfSpeed 8 = .ok (.invokevirtual 180, 3) := by decide +kernel
theorem dX5_tellIfSpeed_11 : decode cX5_tellIfSpeed 11 = .ok (.aload_n 0, 1) := by decide +kernel
theorem dX5_tellIfSpeed_12 : decode cX5_tellIfSpeed 12 = .ok (.getfield 16, 3) := by decide +kernel
theorem dX5_tellIfSpeed_15 : decode cX5_tellIfSpeed 15 = .ok (.getfield 44, 3) := by decide +kernel
theorem dX5_tellIfSpeed_18 : decode cX5_tellIfSpeed 18 = .ok (.iload_n 1, 1) := by decide +kernel
theorem dX5_tellIfSpeed_19 : decode cX5_tellIfSpeed 19 = .ok (.aaload, 1) := by decide +kernel
theorem dX5_tellIfSpeed_20 : decode cX5_tellIfSpeed 20 = .ok (.iload_n 2, 1) := by decide +kernel
theorem dX5_tellIfSpeed_21 : decode cX5_tellIfSpeed 21 = .ok (.putfield 72, 3) := by decide +kernel
theorem dX5_tellIfSpeed_24 : decode cX5_tellIfSpeed 24 = .ok (.aload_n 0, 1) := by decide +kernel
theorem dX5_tellIfSpeed_25 : decode cX5_tellIfSpeed 25 = .ok (.getfield 16, 3) := by decide +kernel
theorem dX5_tellIfSpeed_28 : decode cX5_tellIfSpeed 28 = .ok (.invokevirtual 105, 3) := by decide +kernel
theorem dX5_tellIfSpeed_31 : decode cX5_tellIfSpeed 31 = .ok (.istore 4, 2) := by decide +kernel
theorem dX5_tellIfSpeed_33 : decode cX5_tellIfSpeed 33 = .ok (.iload_n 3, 1) := by decide +kernel
theorem dX5_tellIfSpeed_34 : decode cX5_tellIfSpeed 34 = .ok (.lookupswitch 40 #[(0, 26), (1, 29)], 26) := by decide +kernel
theorem dX5_tellIfSpeed_60 : decode cX5_tellIfSpeed 60 = .ok (.iload 4, 2) := by decide +kernel
theorem dX5_tellIfSpeed_62 : decode cX5_tellIfSpeed 62 = .ok (.ireturn, 1) := by decide +kernel
theorem dX5_tellIfSpeed_63 : decode cX5_tellIfSpeed 63 = .ok (.aload_n 0, 1) := by decide +kernel
theorem dX5_tellIfSpeed_64 : decode cX5_tellIfSpeed 64 = .ok (.getfield 16, 3) := by decide +kernel
theorem dX5_tellIfSpeed_67 : decode cX5_tellIfSpeed 67 = .ok (.iload_n 1, 1) := by decide +kernel
theorem dX5_tellIfSpeed_68 : decode cX5_tellIfSpeed 68 = .ok (.iload 4, 2) := by decide +kernel
theorem dX5_tellIfSpeed_70 : decode cX5_tellIfSpeed 70 = .ok (.invokevirtual 293, 3) := by decide +kernel
theorem dX5_tellIfSpeed_73 : decode cX5_tellIfSpeed 73 = .ok (.ireturn, 1) := by decide +kernel
theorem dX5_tellIfSpeed_74 : decode cX5_tellIfSpeed 74 = .ok (.aload_n 0, 1) := by decide +kernel
theorem dX5_tellIfSpeed_75 : decode cX5_tellIfSpeed 75 = .ok (.getfield 16, 3) := by decide +kernel
theorem dX5_tellIfSpeed_78 : decode cX5_tellIfSpeed 78 = .ok (.iload 4, 2) := by decide +kernel
theorem dX5_tellIfSpeed_80 : decode cX5_tellIfSpeed 80 = .ok (.invokevirtual 321, 3) := by decide +kernel
theorem dX5_tellIfSpeed_83 : decode cX5_tellIfSpeed 83 = .ok (.ireturn, 1) := by decide +kernel
set_option maxRecDepth 100000 in
theorem ggX5_ticksUntilClosing_X0_copyFrom : GoodIn wsX5_ticksUntilClosing wsX0_copyFrom := goodIn_r _ [9, 10, 11, 12, 13, 14, 15, 16, 17, 18, 19, 20, 21, 22, 23, 24, 25, 26, 27, 28, 29, 30, 31, 32, 33, 34, 35, 36, 37, 131, 132, 133, 134, 135, 136, 137, 138, 139, 140, 141, 142, 143, 144, 145, 146, 147, 148] rfl (by decide +kernel)
set_option maxRecDepth 100000 in
theorem gX5_ticksUntilClosing_X0_copyFrom : GoodIn wsX5_ticksUntilClosing (wsV RX5 180 RX0 yX0_copyFrom wsX0_copyFrom) := goodIn_app (goodIn_r _ [5, 6, 7, 8] rfl (by decide +kernel)) ggX5_ticksUntilClosing_X0_copyFrom
set_option maxRecDepth 100000 in
theorem ggX5_ticksUntilClosing_X0_whyNotClosed : GoodIn wsX5_ticksUntilClosing wsX0_whyNotClosed := goodIn_r _ [41, 10, 42, 43, 44, 45, 46, 47, 48, 12, 49, 50, 51, 8, 52, 53, 54, 55, 56, 57, 58, 59, 60, 11, 61, 62, 63, 64, 65, 66, 67, 68, 69, 18, 70, 24, 21, 22, 20, 71, 72, 73, 74, 25, 75, 76, 77, 131, 132, 133, 134, 135, 136, 137, 138, 139, 140, 141, 142, 143, 144, 145, 146, 147, 148] rfl (by decide +kernel)
set_option maxRecDepth 100000 in
theorem gX5_ticksUntilClosing_X0_whyNotClosed : GoodIn wsX5_ticksUntilClosing (wsV RX5 96 RX0 yX0_whyNotClosed wsX0_whyNotClosed) := goodIn_app (goodIn_r _ [38, 39, 40, 8] rfl (by decide +kernel)) ggX5_ticksUntilClosing_X0_whyNotClosed
set_option maxRecDepth 100000 in
theorem ggX5_ticksUntilClosing_X0_tick : GoodIn wsX5_ticksUntilClosing wsX0_tick := goodIn_r _ [81, 14, 10, 13, 53, 54, 55, 8, 56, 49, 50, 51, 52, 43, 57, 58, 59, 60, 11, 61, 62, 63, 64, 65, 66, 67, 68, 69, 18, 70, 24, 21, 22, 20, 82, 83, 84, 85, 86, 87, 47, 88, 89, 90, 91, 92, 93, 94, 95, 96, 97, 98, 99, 100, 28, 26, 27, 23, 25, 101, 102, 103, 104, 105, 106, 107, 108, 109, 110, 111, 112, 113, 114, 12, 115, 116, 117, 118, 119, 120, 121, 122, 123, 124, 131, 132, 133, 134, 135, 136, 137, 138, 139, 140, 141, 142, 143, 144, 145, 146, 147, 148] rfl (by decide +kernel)
set_option maxRecDepth 100000 in
theorem gX5_ticksUntilClosing_X0_tick : GoodIn wsX5_ticksUntilClosing (wsV RX5 219 RX0 yX0_tick wsX0_tick) := goodIn_app (goodIn_r _ [78, 79, 80, 8] rfl (by decide +kernel)) ggX5_ticksUntilClosing_X0_tick
theorem dX5_ticksUntilClosing_0 : decode cX5_ticksUntilClosing 0 = .ok (.aload_n 0, 1) := by decide +kernel
theorem dX5_ticksUntilClosing_1 : decode cX5_ticksUntilClosing 1 = .ok (.getfield 10, 3) := by decide +kernel
theorem dX5_ticksUntilClosing_4 : decode cX5_ticksUntilClosing 4 = .ok (.getfield 44, 3) := by decide +kernel
theorem dX5_ticksUntilClosing_7 : decode cX5_ticksUntilClosing 7 = .ok (.iload_n 1, 1) := by decide +kernel
theorem dX5_ticksUntilClosing_8 : decode cX5_ticksUntilClosing 8 = .ok (.aaload, 1) := by decide +kernel
theorem dX5_ticksUntilClosing_9 : decode cX5_ticksUntilClosing 9 = .ok (.getfield 48, 3) := by decide +kernel
theorem dX5_ticksUntilClosing_12 : decode cX5_ticksUntilClosing 12 = .ok (.ifCond .ne 5, 3) := by decide +kernel
theorem dX5_ticksUntilClosing_15 : decode cX5_ticksUntilClosing 15 = .ok (.iconst (-1), 1) := by decide +kernel
theorem dX5_ticksUntilClosing_16 : decode cX5_ticksUntilClosing 16 = .ok (.ireturn, 1) := by decide +kernel
theorem dX5_ticksUntilClosing_17 : decode cX5_ticksUntilClosing 17 = .ok (.aload_n 0, 1) := by decide +kernel
theorem dX5_ticksUntilClosing_18 : decode cX5_ticksUntilClosing 18 = .ok (.getfield 16, 3) := by decide +kernel
theorem dX5_ticksUntilClosing_21 : decode cX5_ticksUntilClosing 21 = .ok (.aload_n 0, 1) := by decide +kernel
theorem dX5_ticksUntilClosing_22 : decode cX5_ticksUntilClosing 22 = .ok (.getfield 10, 3) := by decide +kernel
theorem dX5_ticksUntilClosing_25 : decode cX5_ticksUntilClosing 25 = .ok (.invokevirtual 180, 3) := by decide +kernel
theorem dX5_ticksUntilClosing_28 : decode cX5_ticksUntilClosing 28 = .ok (.iconst 0, 1) := by decide +kernel
theorem dX5_ticksUntilClosing_29 : decode cX5_ticksUntilClosing 29 = .ok (.istore_n 2, 1) := by decide +kernel
theorem dX5_ticksUntilClosing_30 : decode cX5_ticksUntilClosing 30 = .ok (.iload_n 2, 1) := by decide +kernel
theorem dX5_ticksUntilClosing_31 : decode cX5_ticksUntilClosing 31 = .ok (.sipush 500, 3) := by decide +kernel
theorem dX5_ticksUntilClosing_34 : decode cX5_ticksUntilClosing 34 = .ok (.if_icmp .gt 30, 3) := by decide +kernel
theorem dX5_ticksUntilClosing_37 : decode cX5_ticksUntilClosing 37 = .ok (.aload_n 0, 1) := by decide +kernel
theorem dX5_ticksUntilClosing_38 : decode cX5_ticksUntilClosing 38 = .ok (.getfield 16, 3) := by decide +kernel
theorem dX5_ticksUntilClosing_41 : decode cX5_ticksUntilClosing 41 = .ok (.iload_n 1, 1) := by decide +kernel
theorem dX5_ticksUntilClosing_42 : decode cX5_ticksUntilClosing 42 = .ok (.invokevirtual 96, 3) := by decide +kernel
theorem dX5_ticksUntilClosing_45 : decode cX5_ticksUntilClosing 45 = .ok (.ifCond .ne 5, 3) := by decide +kernel
theorem dX5_ticksUntilClosing_48 : decode cX5_ticksUntilClosing 48 = .ok (.iload_n 2, 1) := by decide +kernel
theorem dX5_ticksUntilClosing_49 : decode cX5_ticksUntilClosing 49 = .ok (.ireturn, 1) := by decide +kernel
theorem dX5_ticksUntilClosing_50 : decode cX5_ticksUntilClosing 50 = .ok (.aload_n 0, 1) := by decide +kernel
theorem dX5_ticksUntilClosing_51 : decode cX5_ticksUntilClosing 51 = .ok (.getfield 16, 3) := by decide +kernel
theorem dX5_ticksUntilClosing_54 : decode cX5_ticksUntilClosing 54 = .ok (.invokevirtual 219, 3) := by decide +kernel
theorem dX5_ticksUntilClosing_57 : decode cX5_ticksUntilClosing 57 = .ok (.pop, 1) := by decide +kernel
theorem dX5_ticksUntilClosing_58 : decode cX5_ticksUntilClosing 58 = .ok (.iinc 2 1, 3) := by decide +kernel
theorem dX5_ticksUntilClosing_61 : decode cX5_ticksUntilClosing 61 = .ok (.goto (-31), 3) := by decide +kernel
theorem dX5_ticksUntilClosing_64 : decode cX5_ticksUntilClosing 64 = .ok (.iconst (-1), 1) := by decide +kernel
theorem dX5_ticksUntilClosing_65 : decode cX5_ticksUntilClosing 65 = .ok (.ireturn, 1) := by decide +kernel
set_option maxRecDepth 100000 in
theorem ggX5_speedForFairShare_X0_ratingsClosed : GoodIn wsX5_speedForFairShare wsX0_ratingsClosed := goodIn_r _ [15, 16, 17, 18, 90, 91, 92, 93, 94, 95, 96, 97, 98, 99, 100, 101, 102, 103, 104] rfl (by decide +kernel)
set_option maxRecDepth 100000 in
theorem gX5_speedForFairShare_X0_ratingsClosed : GoodIn wsX5_speedForFairShare (wsV RX5 222 RX0 yX0_ratingsClosed wsX0_ratingsClosed) := goodIn_app (goodIn_r _ [11, 12, 13, 14] rfl (by decide +kernel)) ggX5_speedForFairShare_X0_ratingsClosed
set_option maxRecDepth 100000 in
theorem ggX5_speedForFairShare_X0_demand : GoodIn wsX5_speedForFairShare wsX0_demand := goodIn_r _ [22, 23, 24, 25, 26, 27, 28, 14, 29, 16, 17, 90, 91, 92, 93, 94, 105, 106, 107, 95, 96, 97, 98, 99, 100, 101, 102, 103, 104] rfl (by decide +kernel)
set_option maxRecDepth 100000 in
theorem gX5_speedForFairShare_X0_demand : GoodIn wsX5_speedForFairShare (wsV RX5 225 RX0 yX0_demand wsX0_demand) := goodIn_app (goodIn_r _ [19, 20, 21, 14] rfl (by decide +kernel)) ggX5_speedForFairShare_X0_demand
set_option maxRecDepth 100000 in
theorem ggX5_speedForFairShare_X0_copyFrom : GoodIn wsX5_speedForFairShare wsX0_copyFrom := goodIn_r _ [33, 16, 23, 34, 35, 36, 37, 38, 39, 40, 41, 42, 43, 44, 45, 46, 47, 48, 49, 50, 51, 52, 53, 54, 55, 56, 57, 58, 59, 90, 91, 92, 93, 94, 95, 96, 97, 98, 99, 100, 101, 102, 103, 104, 105, 106, 107] rfl (by decide +kernel)
set_option maxRecDepth 100000 in
theorem gX5_speedForFairShare_X0_copyFrom : GoodIn wsX5_speedForFairShare (wsV RX5 180 RX0 yX0_copyFrom wsX0_copyFrom) := goodIn_app (goodIn_r _ [30, 31, 32, 14] rfl (by decide +kernel)) ggX5_speedForFairShare_X0_copyFrom
set_option maxRecDepth 100000 in
theorem ggX5_speedForFairShare_X0_frequency : GoodIn wsX5_speedForFairShare wsX0_frequency := goodIn_r _ [63, 26, 27, 28, 14, 29, 16, 17, 64, 20, 21, 22, 23, 24, 25, 65, 66, 67, 68, 69, 70, 71, 40, 72, 46, 43, 44, 42, 90, 91, 92, 93, 94, 95, 96, 97, 98, 99, 100, 101, 102, 103, 104, 105, 106, 107] rfl (by decide +kernel)
set_option maxRecDepth 100000 in
theorem gX5_speedForFairShare_X0_frequency : GoodIn wsX5_speedForFairShare (wsV RX5 105 RX0 yX0_frequency wsX0_frequency) := goodIn_app (goodIn_r _ [60, 61, 62, 14] rfl (by decide +kernel)) ggX5_speedForFairShare_X0_frequency
set_option maxRecDepth 100000 in
theorem ggX5_speedForFairShare_X0_power : GoodIn wsX5_speedForFairShare wsX0_power := goodIn_r _ [76, 16, 77, 78, 9, 79, 69, 70, 71, 40, 72, 46, 43, 44, 42, 80, 81, 82, 14, 83, 17, 65, 66, 67, 68, 64, 20, 21, 22, 23, 24, 25, 26, 27, 28, 29, 90, 91, 92, 93, 94, 95, 96, 97, 98, 99, 100, 101, 102, 103, 104, 105, 106, 107] rfl (by decide +kernel)
set_option maxRecDepth 100000 in
theorem gX5_speedForFairShare_X0_power : GoodIn wsX5_speedForFairShare (wsV RX5 293 RX0 yX0_power wsX0_power) := goodIn_app (goodIn_r _ [73, 74, 75, 14] rfl (by decide +kernel)) ggX5_speedForFairShare_X0_power
theorem dX5_speedForFairShare_0 : decode cX5_speedForFairShare 0 = .ok (.aload_n 0, 1) := by decide +kernel
theorem dX5_speedForFairShare_1 : decode cX5_speedForFairShare 1 = .ok (.getfield 10, 3) := by decide +kernel
theorem dX5_speedForFairShare_4 : decode cX5_speedForFairShare 4 = .ok (.invokevirtual 222, 3) := by decide +kernel
theorem dX5_speedForFairShare_7 : decode cX5_speedForFairShare 7 = .ok (.istore_n 2, 1) := by decide +kernel
theorem dX5_speedForFairShare_8 : decode cX5_speedForFairShare 8 = .ok (.aload_n 0, 1) := by decide +kernel
theorem dX5_speedForFairShare_9 : decode cX5_speedForFairShare 9 = .ok (.getfield 10, 3) := by decide +kernel
theorem dX5_speedForFairShare_12 : decode cX5_speedForFairShare 12 = .ok (.getfield 44, 3) := by decide +kernel
theorem dX5_speedForFairShare_15 : decode cX5_speedForFairShare 15 = .ok (.iload_n 1, 1) := by decide +kernel
theorem dX5_speedForFairShare_16 : decode cX5_speedForFairShare 16 = .ok (.aaload, 1) := by decide +kernel
theorem dX5_speedForFairShare_17 : decode cX5_speedForFairShare 17 = .ok (.getfield 108, 3) := by decide +kernel
theorem dX5_speedForFairShare_20 : decode cX5_speedForFairShare 20 = .ok (.ifCond .eq 7, 3) := by decide +kernel
theorem dX5_speedForFairShare_23 : decode cX5_speedForFairShare 23 = .ok (.iload_n 2, 1) := by decide +kernel
theorem dX5_speedForFairShare_24 : decode cX5_speedForFairShare 24 = .ok (.ifCond .ne 5, 3) := by decide +kernel
theorem dX5_speedForFairShare_27 : decode cX5_speedForFairShare 27 = .ok (.iconst (-1), 1) := by decide +kernel
theorem dX5_speedForFairShare_28 : decode cX5_speedForFairShare 28 = .ok (.ireturn, 1) := by decide +kernel
theorem dX5_speedForFairShare_29 : decode cX5_speedForFairShare 29 = .ok (.aload_n 0, 1) := by decide +kernel
theorem dX5_speedForFairShare_30 : decode cX5_speedForFairShare 30 = .ok (.getfield 10, 3) := by decide +kernel
theorem dX5_speedForFairShare_33 : decode cX5_speedForFairShare 33 = .ok (.invokevirtual 225, 3) := by decide +kernel
theorem dX5_speedForFairShare_36 : decode cX5_speedForFairShare 36 = .ok (.aload_n 0, 1) := by decide +kernel
theorem dX5_speedForFairShare_37 : decode cX5_speedForFairShare 37 = .ok (.getfield 10, 3) := by decide +kernel
theorem dX5_speedForFairShare_40 : decode cX5_speedForFairShare 40 = .ok (.getfield 44, 3) := by decide +kernel
theorem dX5_speedForFairShare_43 : decode cX5_speedForFairShare 43 = .ok (.iload_n 1, 1) := by decide +kernel
theorem dX5_speedForFairShare_44 : decode cX5_speedForFairShare 44 = .ok (.aaload, 1) := by decide +kernel
theorem dX5_speedForFairShare_45 : decode cX5_speedForFairShare 45 = .ok (.getfield 65, 3) := by decide +kernel
theorem dX5_speedForFairShare_48 : decode cX5_speedForFairShare 48 = .ok (.imul, 1) := by decide +kernel
theorem dX5_speedForFairShare_49 : decode cX5_speedForFairShare 49 = .ok (.iload_n 2, 1) := by decide +kernel
theorem dX5_speedForFairShare_50 : decode cX5_speedForFairShare 50 = .ok (.idiv, 1) := by decide +kernel
theorem dX5_speedForFairShare_51 : decode cX5_speedForFairShare 51 = .ok (.istore_n 3, 1) := by decide +kernel
theorem dX5_speedForFairShare_52 : decode cX5_speedForFairShare 52 = .ok (.iconst (-1), 1) := by decide +kernel
theorem dX5_speedForFairShare_53 : decode cX5_speedForFairShare 53 = .ok (.istore 4, 2) := by decide +kernel
theorem dX5_speedForFairShare_55 : decode cX5_speedForFairShare 55 = .ok (.iconst 0, 1) := by decide +kernel
theorem dX5_speedForFairShare_56 : decode cX5_speedForFairShare 56 = .ok (.istore 5, 2) := by decide +kernel
theorem dX5_speedForFairShare_58 : decode cX5_speedForFairShare 58 = .ok (.aload_n 0, 1) := by decide +kernel
theorem dX5_speedForFairShare_59 : decode cX5_speedForFairShare 59 = .ok (.getfield 16, 3) := by decide +kernel
theorem dX5_speedForFairShare_62 : decode cX5_speedForFairShare 62 = .ok (.aload_n 0, 1) := by decide +kernel
theorem dX5_speedForFairShare_63 : decode cX5_speedForFairShare 63 = .ok (.getfield 10, 3) := by decide +kernel
theorem dX5_speedForFairShare_66 : decode cX5_speedForFairShare 66 = .ok (.invokevirtual 180, 3) := by decide +kernel
theorem dX5_speedForFairShare_69 : decode cX5_speedForFairShare 69 = .ok (.sipush 4700, 3) := by decide +kernel
theorem dX5_speedForFairShare_72 : decode cX5_speedForFairShare 72 = .ok (.istore 6, 2) := by decide +kernel
theorem dX5_speedForFairShare_74 : decode cX5_speedForFairShare 74 = .ok (.iload 6, 2) := by decide +kernel
theorem dX5_speedForFairShare_76 : decode cX5_speedForFairShare 76 = .ok (.sipush 5300, 3) := by decide +kernel
theorem dX5_speedForFairShare_79 : decode cX5_speedForFairShare 79 = .ok (.if_icmp .gt 66, 3) := by decide +kernel
theorem dX5_speedForFairShare_82 : decode cX5_speedForFairShare 82 = .ok (.aload_n 0, 1) := by decide +kernel
theorem dX5_speedForFairShare_83 : decode cX5_speedForFairShare 83 = .ok (.getfield 16, 3) := by decide +kernel
theorem dX5_speedForFairShare_86 : decode cX5_speedForFairShare 86 = .ok (.getfield 44, 3) := by decide +kernel
theorem dX5_speedForFairShare_89 : decode cX5_speedForFairShare 89 = .ok (.iload_n 1, 1) := by decide +kernel
theorem dX5_speedForFairShare_90 : decode cX5_speedForFairShare 90 = .ok (.aaload, 1) := by decide +kernel
theorem dX5_speedForFairShare_91 : decode cX5_speedForFairShare 91 = .ok (.iload 6, 2) := by decide +kernel
theorem dX5_speedForFairShare_93 : decode cX5_speedForFairShare 93 = .ok (.putfield 72, 3) := by decide +kernel
theorem dX5_speedForFairShare_96 : decode cX5_speedForFairShare 96 = .ok (.aload_n 0, 1) := by decide +kernel
theorem dX5_speedForFairShare_97 : decode cX5_speedForFairShare 97 = .ok (.getfield 16, 3) := by decide +kernel
theorem dX5_speedForFairShare_100 : decode cX5_speedForFairShare 100 = .ok (.iload_n 1, 1) := by decide +kernel
theorem dX5_speedForFairShare_101 : decode cX5_speedForFairShare 101 = .ok (.aload_n 0, 1) := by decide +kernel
theorem dX5_speedForFairShare_102 : decode cX5_speedForFairShare 102 = .ok (.getfield 16, 3) := by decide +kernel
theorem dX5_speedForFairShare_105 : decode cX5_speedForFairShare 105 = .ok (.invokevirtual 105, 3) := by decide +kernel
theorem dX5_speedForFairShare_108 : decode cX5_speedForFairShare 108 = .ok (.invokevirtual 293, 3) := by decide +kernel
theorem dX5_speedForFairShare_111 : decode cX5_speedForFairShare 111 = .ok (.iload_n 3, 1) := by decide +kernel
theorem dX5_speedForFairShare_112 : decode cX5_speedForFairShare 112 = .ok (.isub, 1) := by decide +kernel
theorem dX5_speedForFairShare_113 : decode cX5_speedForFairShare 113 = .ok (.invokestatic 331, 3) := by decide +kernel
theorem dX5_speedForFairShare_116 : decode cX5_speedForFairShare 116 = .ok (.istore 7, 2) := by decide +kernel
theorem dX5_speedForFairShare_118 : decode cX5_speedForFairShare 118 = .ok (.iload 4, 2) := by decide +kernel
theorem dX5_speedForFairShare_120 : decode cX5_speedForFairShare 120 = .ok (.iconst (-1), 1) := by decide +kernel
theorem dX5_speedForFairShare_121 : decode cX5_speedForFairShare 121 = .ok (.if_icmp .eq 10, 3) := by decide +kernel
theorem dX5_speedForFairShare_124 : decode cX5_speedForFairShare 124 = .ok (.iload 7, 2) := by decide +kernel
theorem dX5_speedForFairShare_126 : decode cX5_speedForFairShare 126 = .ok (.iload 5, 2) := by decide +kernel
theorem dX5_speedForFairShare_128 : decode cX5_speedForFairShare 128 = .ok (.if_icmp .ge 11, 3) := by decide +kernel
theorem dX5_speedForFairShare_131 : decode cX5_speedForFairShare 131 = .ok (.iload 7, 2) := by decide +kernel
theorem dX5_speedForFairShare_133 : decode cX5_speedForFairShare 133 = .ok (.istore 5, 2) := by decide +kernel
theorem dX5_speedForFairShare_135 : decode cX5_speedForFairShare 135 = .ok (.iload 6, 2) := by decide +kernel
theorem dX5_speedForFairShare_137 : decode cX5_speedForFairShare 137 = .ok (.istore 4, 2) := by decide +kernel
theorem dX5_speedForFairShare_139 : decode cX5_speedForFairShare 139 = .ok (.iinc 6 1, 3) := by decide +kernel
theorem dX5_speedForFairShare_142 : decode cX5_speedForFairShare 142 = .ok (.goto (-68), 3) := by decide +kernel
theorem dX5_speedForFairShare_145 : decode cX5_speedForFairShare 145 = .ok (.iload 4, 2) := by decide +kernel
theorem dX5_speedForFairShare_147 : decode cX5_speedForFairShare 147 = .ok (.ireturn, 1) := by decide +kernel
theorem dX5_bitsOfDouble_0 : decode cX5_bitsOfDouble 0 = .ok (.dload_n 0, 1) := by decide +kernel
theorem dX5_bitsOfDouble_1 : decode cX5_bitsOfDouble 1 = .ok (.dconst 0, 1) := by decide +kernel
theorem dX5_bitsOfDouble_2 : decode cX5_bitsOfDouble 2 = .ok (.dcmp .g, 1) := by decide +kernel
theorem dX5_bitsOfDouble_3 : decode cX5_bitsOfDouble 3 = .ok (.ifCond .gt 5, 3) := by decide +kernel
theorem dX5_bitsOfDouble_6 : decode cX5_bitsOfDouble 6 = .ok (.lconst 0, 1) := by decide +kernel
theorem dX5_bitsOfDouble_7 : decode cX5_bitsOfDouble 7 = .ok (.lreturn, 1) := by decide +kernel
theorem dX5_bitsOfDouble_8 : decode cX5_bitsOfDouble 8 = .ok (.dload_n 0, 1) := by decide +kernel
theorem dX5_bitsOfDouble_9 : decode cX5_bitsOfDouble 9 = .ok (.dstore_n 2, 1) := by decide +kernel
theorem dX5_bitsOfDouble_10 : decode cX5_bitsOfDouble 10 = .ok (.sipush 1023, 3) := by decide +kernel
theorem dX5_bitsOfDouble_13 : decode cX5_bitsOfDouble 13 = .ok (.istore 4, 2) := by decide +kernel
theorem dX5_bitsOfDouble_15 : decode cX5_bitsOfDouble 15 = .ok (.iconst 0, 1) := by decide +kernel
theorem dX5_bitsOfDouble_16 : decode cX5_bitsOfDouble 16 = .ok (.istore 5, 2) := by decide +kernel
theorem dX5_bitsOfDouble_18 : decode cX5_bitsOfDouble 18 = .ok (.iload 5, 2) := by decide +kernel
theorem dX5_bitsOfDouble_20 : decode cX5_bitsOfDouble 20 = .ok (.sipush 1023, 3) := by decide +kernel
theorem dX5_bitsOfDouble_23 : decode cX5_bitsOfDouble 23 = .ok (.if_icmp .ge 26, 3) := by decide +kernel
theorem dX5_bitsOfDouble_26 : decode cX5_bitsOfDouble 26 = .ok (.dload_n 2, 1) := by decide +kernel
theorem dX5_bitsOfDouble_27 : decode cX5_bitsOfDouble 27 = .ok (.ldc2_w 336, 3) := by decide +kernel
theorem dX5_bitsOfDouble_30 : decode cX5_bitsOfDouble 30 = .ok (.dcmp .l, 1) := by decide +kernel
theorem dX5_bitsOfDouble_31 : decode cX5_bitsOfDouble 31 = .ok (.ifCond .lt 18, 3) := by decide +kernel
theorem dX5_bitsOfDouble_34 : decode cX5_bitsOfDouble 34 = .ok (.dload_n 2, 1) := by decide +kernel
theorem dX5_bitsOfDouble_35 : decode cX5_bitsOfDouble 35 = .ok (.ldc2_w 336, 3) := by decide +kernel
theorem dX5_bitsOfDouble_38 : decode cX5_bitsOfDouble 38 = .ok (.ddiv, 1) := by decide +kernel
theorem dX5_bitsOfDouble_39 : decode cX5_bitsOfDouble 39 = .ok (.dstore_n 2, 1) := by decide +kernel
theorem dX5_bitsOfDouble_40 : decode cX5_bitsOfDouble 40 = .ok (.iinc 4 1, 3) := by decide +kernel
theorem dX5_bitsOfDouble_43 : decode cX5_bitsOfDouble 43 = .ok (.iinc 5 1, 3) := by decide +kernel
theorem dX5_bitsOfDouble_46 : decode cX5_bitsOfDouble 46 = .ok (.goto (-28), 3) := by decide +kernel
theorem dX5_bitsOfDouble_49 : decode cX5_bitsOfDouble 49 = .ok (.iconst 0, 1) := by decide +kernel
theorem dX5_bitsOfDouble_50 : decode cX5_bitsOfDouble 50 = .ok (.istore 5, 2) := by decide +kernel
theorem dX5_bitsOfDouble_52 : decode cX5_bitsOfDouble 52 = .ok (.iload 5, 2) := by decide +kernel
theorem dX5_bitsOfDouble_54 : decode cX5_bitsOfDouble 54 = .ok (.sipush 1022, 3) := by decide +kernel
theorem dX5_bitsOfDouble_57 : decode cX5_bitsOfDouble 57 = .ok (.if_icmp .ge 24, 3) := by decide +kernel
theorem dX5_bitsOfDouble_60 : decode cX5_bitsOfDouble 60 = .ok (.dload_n 2, 1) := by decide +kernel
theorem dX5_bitsOfDouble_61 : decode cX5_bitsOfDouble 61 = .ok (.dconst 1, 1) := by decide +kernel
theorem dX5_bitsOfDouble_62 : decode cX5_bitsOfDouble 62 = .ok (.dcmp .g, 1) := by decide +kernel
theorem dX5_bitsOfDouble_63 : decode cX5_bitsOfDouble 63 = .ok (.ifCond .ge 18, 3) := by decide +kernel
theorem dX5_bitsOfDouble_66 : decode cX5_bitsOfDouble 66 = .ok (.dload_n 2, 1) := by decide +kernel
theorem dX5_bitsOfDouble_67 : decode cX5_bitsOfDouble 67 = .ok (.ldc2_w 336, 3) := by decide +kernel
theorem dX5_bitsOfDouble_70 : decode cX5_bitsOfDouble 70 = .ok (.dmul, 1) := by decide +kernel
theorem dX5_bitsOfDouble_71 : decode cX5_bitsOfDouble 71 = .ok (.dstore_n 2, 1) := by decide +kernel
theorem dX5_bitsOfDouble_72 : decode cX5_bitsOfDouble 72 = .ok (.iinc 4 (-1), 3) := by decide +kernel
theorem dX5_bitsOfDouble_75 : decode cX5_bitsOfDouble 75 = .ok (.iinc 5 1, 3) := by decide +kernel
theorem dX5_bitsOfDouble_78 : decode cX5_bitsOfDouble 78 = .ok (.goto (-26), 3) := by decide +kernel
theorem dX5_bitsOfDouble_81 : decode cX5_bitsOfDouble 81 = .ok (.iload 4, 2) := by decide +kernel
theorem dX5_bitsOfDouble_83 : decode cX5_bitsOfDouble 83 = .ok (.i2l, 1) := by decide +kernel
theorem dX5_bitsOfDouble_84 : decode cX5_bitsOfDouble 84 = .ok (.bipush 52, 2) := by decide +kernel
theorem dX5_bitsOfDouble_86 : decode cX5_bitsOfDouble 86 = .ok (.lshl, 1) := by decide +kernel
theorem dX5_bitsOfDouble_87 : decode cX5_bitsOfDouble 87 = .ok (.dload_n 2, 1) := by decide +kernel
theorem dX5_bitsOfDouble_88 : decode cX5_bitsOfDouble 88 = .ok (.dconst 1, 1) := by decide +kernel
theorem dX5_bitsOfDouble_89 : decode cX5_bitsOfDouble 89 = .ok (.dsub, 1) := by decide +kernel
theorem dX5_bitsOfDouble_90 : decode cX5_bitsOfDouble 90 = .ok (.ldc2_w 338, 3) := by decide +kernel
theorem dX5_bitsOfDouble_93 : decode cX5_bitsOfDouble 93 = .ok (.dmul, 1) := by decide +kernel
theorem dX5_bitsOfDouble_94 : decode cX5_bitsOfDouble 94 = .ok (.d2l, 1) := by decide +kernel
theorem dX5_bitsOfDouble_95 : decode cX5_bitsOfDouble 95 = .ok (.ladd, 1) := by decide +kernel
theorem dX5_bitsOfDouble_96 : decode cX5_bitsOfDouble 96 = .ok (.lreturn, 1) := by decide +kernel
theorem dX5_bitsOfFloat_0 : decode cX5_bitsOfFloat 0 = .ok (.fload_n 0, 1) := by decide +kernel
theorem dX5_bitsOfFloat_1 : decode cX5_bitsOfFloat 1 = .ok (.fconst 0, 1) := by decide +kernel
theorem dX5_bitsOfFloat_2 : decode cX5_bitsOfFloat 2 = .ok (.fcmp .g, 1) := by decide +kernel
theorem dX5_bitsOfFloat_3 : decode cX5_bitsOfFloat 3 = .ok (.ifCond .gt 5, 3) := by decide +kernel
theorem dX5_bitsOfFloat_6 : decode cX5_bitsOfFloat 6 = .ok (.iconst 0, 1) := by decide +kernel
theorem dX5_bitsOfFloat_7 : decode cX5_bitsOfFloat 7 = .ok (.ireturn, 1) := by decide +kernel
theorem dX5_bitsOfFloat_8 : decode cX5_bitsOfFloat 8 = .ok (.fload_n 0, 1) := by decide +kernel
theorem dX5_bitsOfFloat_9 : decode cX5_bitsOfFloat 9 = .ok (.fstore_n 1, 1) := by decide +kernel
theorem dX5_bitsOfFloat_10 : decode cX5_bitsOfFloat 10 = .ok (.bipush 127, 2) := by decide +kernel
theorem dX5_bitsOfFloat_12 : decode cX5_bitsOfFloat 12 = .ok (.istore_n 2, 1) := by decide +kernel
theorem dX5_bitsOfFloat_13 : decode cX5_bitsOfFloat 13 = .ok (.iconst 0, 1) := by decide +kernel
theorem dX5_bitsOfFloat_14 : decode cX5_bitsOfFloat 14 = .ok (.istore_n 3, 1) := by decide +kernel
theorem dX5_bitsOfFloat_15 : decode cX5_bitsOfFloat 15 = .ok (.iload_n 3, 1) := by decide +kernel
theorem dX5_bitsOfFloat_16 : decode cX5_bitsOfFloat 16 = .ok (.bipush 127, 2) := by decide +kernel
theorem dX5_bitsOfFloat_18 : decode cX5_bitsOfFloat 18 = .ok (.if_icmp .ge 22, 3) := by decide +kernel
theorem dX5_bitsOfFloat_21 : decode cX5_bitsOfFloat 21 = .ok (.fload_n 1, 1) := by decide +kernel
theorem dX5_bitsOfFloat_22 : decode cX5_bitsOfFloat 22 = .ok (.fconst 2, 1) := by decide +kernel
theorem dX5_bitsOfFloat_23 : decode cX5_bitsOfFloat 23 = .ok (.fcmp .l, 1) := by decide +kernel
theorem dX5_bitsOfFloat_24 : decode cX5_bitsOfFloat 24 = .ok (.ifCond .lt 16, 3) := by decide +kernel
theorem dX5_bitsOfFloat_27 : decode cX5_bitsOfFloat 27 = .ok (.fload_n 1, 1) := by decide +kernel
theorem dX5_bitsOfFloat_28 : decode cX5_bitsOfFloat 28 = .ok (.fconst 2, 1) := by decide +kernel
theorem dX5_bitsOfFloat_29 : decode cX5_bitsOfFloat 29 = .ok (.fdiv, 1) := by decide +kernel
theorem dX5_bitsOfFloat_30 : decode cX5_bitsOfFloat 30 = .ok (.fstore_n 1, 1) := by decide +kernel
theorem dX5_bitsOfFloat_31 : decode cX5_bitsOfFloat 31 = .ok (.iinc 2 1, 3) := by decide +kernel
theorem dX5_bitsOfFloat_34 : decode cX5_bitsOfFloat 34 = .ok (.iinc 3 1, 3) := by decide +kernel
theorem dX5_bitsOfFloat_37 : decode cX5_bitsOfFloat 37 = .ok (.goto (-22), 3) := by decide +kernel
theorem dX5_bitsOfFloat_40 : decode cX5_bitsOfFloat 40 = .ok (.iconst 0, 1) := by decide +kernel
theorem dX5_bitsOfFloat_41 : decode cX5_bitsOfFloat 41 = .ok (.istore_n 3, 1) := by decide +kernel
theorem dX5_bitsOfFloat_42 : decode cX5_bitsOfFloat 42 = .ok (.iload_n 3, 1) := by decide +kernel
theorem dX5_bitsOfFloat_43 : decode cX5_bitsOfFloat 43 = .ok (.bipush 126, 2) := by decide +kernel
theorem dX5_bitsOfFloat_45 : decode cX5_bitsOfFloat 45 = .ok (.if_icmp .ge 22, 3) := by decide +kernel
theorem dX5_bitsOfFloat_48 : decode cX5_bitsOfFloat 48 = .ok (.fload_n 1, 1) := by decide +kernel
theorem dX5_bitsOfFloat_49 : decode cX5_bitsOfFloat 49 = .ok (.fconst 1, 1) := by decide +kernel
theorem dX5_bitsOfFloat_50 : decode cX5_bitsOfFloat 50 = .ok (.fcmp .g, 1) := by decide +kernel
theorem dX5_bitsOfFloat_51 : decode cX5_bitsOfFloat 51 = .ok (.ifCond .ge 16, 3) := by decide +kernel
theorem dX5_bitsOfFloat_54 : decode cX5_bitsOfFloat 54 = .ok (.fload_n 1, 1) := by decide +kernel
theorem dX5_bitsOfFloat_55 : decode cX5_bitsOfFloat 55 = .ok (.fconst 2, 1) := by decide +kernel
theorem dX5_bitsOfFloat_56 : decode cX5_bitsOfFloat 56 = .ok (.fmul, 1) := by decide +kernel
theorem dX5_bitsOfFloat_57 : decode cX5_bitsOfFloat 57 = .ok (.fstore_n 1, 1) := by decide +kernel
theorem dX5_bitsOfFloat_58 : decode cX5_bitsOfFloat 58 = .ok (.iinc 2 (-1), 3) := by decide +kernel
theorem dX5_bitsOfFloat_61 : decode cX5_bitsOfFloat 61 = .ok (.iinc 3 1, 3) := by decide +kernel
theorem dX5_bitsOfFloat_64 : decode cX5_bitsOfFloat 64 = .ok (.goto (-22), 3) := by decide +kernel
theorem dX5_bitsOfFloat_67 : decode cX5_bitsOfFloat 67 = .ok (.iload_n 2, 1) := by decide +kernel
theorem dX5_bitsOfFloat_68 : decode cX5_bitsOfFloat 68 = .ok (.bipush 23, 2) := by decide +kernel
theorem dX5_bitsOfFloat_70 : decode cX5_bitsOfFloat 70 = .ok (.ishl, 1) := by decide +kernel
theorem dX5_bitsOfFloat_71 : decode cX5_bitsOfFloat 71 = .ok (.fload_n 1, 1) := by decide +kernel
theorem dX5_bitsOfFloat_72 : decode cX5_bitsOfFloat 72 = .ok (.fconst 1, 1) := by decide +kernel
theorem dX5_bitsOfFloat_73 : decode cX5_bitsOfFloat 73 = .ok (.fsub, 1) := by decide +kernel
theorem dX5_bitsOfFloat_74 : decode cX5_bitsOfFloat 74 = .ok (.ldc_w 340, 3) := by decide +kernel
theorem dX5_bitsOfFloat_77 : decode cX5_bitsOfFloat 77 = .ok (.fmul, 1) := by decide +kernel
theorem dX5_bitsOfFloat_78 : decode cX5_bitsOfFloat 78 = .ok (.f2i, 1) := by decide +kernel
theorem dX5_bitsOfFloat_79 : decode cX5_bitsOfFloat 79 = .ok (.iadd, 1) := by decide +kernel
theorem dX5_bitsOfFloat_80 : decode cX5_bitsOfFloat 80 = .ok (.ireturn, 1) := by decide +kernel
