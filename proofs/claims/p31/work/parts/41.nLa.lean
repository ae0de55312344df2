theorem dL_cell_0 : decode cL_cell 0 = .ok (.iload_n 1, 1) := by decide +kernel
theorem dL_cell_1 : decode cL_cell 1 = .ok (.aload_n 0, 1) := by decide +kernel
theorem dL_cell_2 : decode cL_cell 2 = .ok (.arraylength, 1) := by decide +kernel
theorem dL_cell_3 : decode cL_cell 3 = .ok (.if_icmp .ge 9, 3) := by decide +kernel
theorem dL_cell_6 : decode cL_cell 6 = .ok (.aload_n 0, 1) := by decide +kernel
theorem dL_cell_7 : decode cL_cell 7 = .ok (.iload_n 1, 1) := by decide +kernel
theorem dL_cell_8 : decode cL_cell 8 = .ok (.iaload, 1) := by decide +kernel
theorem dL_cell_9 : decode cL_cell 9 = .ok (.goto 9, 3) := by decide +kernel
theorem dL_cell_12 : decode cL_cell 12 = .ok (.ldc 7, 2) := by decide +kernel
theorem dL_cell_14 : decode cL_cell 14 = .ok (.iload_n 1, 1) := by decide +kernel
theorem dL_cell_15 : decode cL_cell 15 = .ok (.iconst 1, 1) := by decide +kernel
theorem dL_cell_16 : decode cL_cell 16 = .ok (.iadd, 1) := by decide +kernel
theorem dL_cell_17 : decode cL_cell 17 = .ok (.imul, 1) := by decide +kernel
theorem dL_cell_18 : decode cL_cell 18 = .ok (.ireturn, 1) := by decide +kernel
theorem dL_low_0 : decode cL_low 0 = .ok (.iload_n 0, 1) := by decide +kernel
theorem dL_low_1 : decode cL_low 1 = .ok (.ldc 8, 2) := by decide +kernel
theorem dL_low_3 : decode cL_low 3 = .ok (.iand, 1) := by decide +kernel
theorem dL_low_4 : decode cL_low 4 = .ok (.iload_n 1, 1) := by decide +kernel
theorem dL_low_5 : decode cL_low 5 = .ok (.irem, 1) := by decide +kernel
theorem dL_low_6 : decode cL_low 6 = .ok (.ireturn, 1) := by decide +kernel
theorem dL_load_0 : decode cL_load 0 = .ok (.iconst 0, 1) := by decide +kernel
theorem dL_load_1 : decode cL_load 1 = .ok (.istore_n 2, 1) := by decide +kernel
theorem dL_load_2 : decode cL_load 2 = .ok (.iconst 0, 1) := by decide +kernel
theorem dL_load_3 : decode cL_load 3 = .ok (.istore_n 3, 1) := by decide +kernel
theorem dL_load_4 : decode cL_load 4 = .ok (.iload_n 3, 1) := by decide +kernel
theorem dL_load_5 : decode cL_load 5 = .ok (.iconst 4, 1) := by decide +kernel
theorem dL_load_6 : decode cL_load 6 = .ok (.if_icmp .ge 21, 3) := by decide +kernel
theorem dL_load_9 : decode cL_load 9 = .ok (.iload_n 2, 1) := by decide +kernel
theorem dL_load_10 : decode cL_load 10 = .ok (.aload_n 1, 1) := by decide +kernel
theorem dL_load_11 : decode cL_load 11 = .ok (.iload_n 3, 1) := by decide +kernel
theorem dL_load_12 : decode cL_load 12 = .ok (.iaload, 1) := by decide +kernel
theorem dL_load_13 : decode cL_load 13 = .ok (.aload_n 1, 1) := by decide +kernel
theorem dL_load_14 : decode cL_load 14 = .ok (.iconst 4, 1) := by decide +kernel
theorem dL_load_15 : decode cL_load 15 = .ok (.iload_n 3, 1) := by decide +kernel
theorem dL_load_16 : decode cL_load 16 = .ok (.iadd, 1) := by decide +kernel
theorem dL_load_17 : decode cL_load 17 = .ok (.iaload, 1) := by decide +kernel
theorem dL_load_18 : decode cL_load 18 = .ok (.imul, 1) := by decide +kernel
theorem dL_load_19 : decode cL_load 19 = .ok (.iadd, 1) := by decide +kernel
theorem dL_load_20 : decode cL_load 20 = .ok (.istore_n 2, 1) := by decide +kernel
theorem dL_load_21 : decode cL_load 21 = .ok (.iinc 3 1, 3) := by decide +kernel
theorem dL_load_24 : decode cL_load 24 = .ok (.goto (-20), 3) := by decide +kernel
theorem dL_load_27 : decode cL_load 27 = .ok (.aload_n 0, 1) := by decide +kernel
theorem dL_load_28 : decode cL_load 28 = .ok (.iconst 4, 1) := by decide +kernel
theorem dL_load_29 : decode cL_load 29 = .ok (.iaload, 1) := by decide +kernel
theorem dL_load_30 : decode cL_load 30 = .ok (.aload_n 0, 1) := by decide +kernel
theorem dL_load_31 : decode cL_load 31 = .ok (.bipush 14, 2) := by decide +kernel
theorem dL_load_33 : decode cL_load 33 = .ok (.iaload, 1) := by decide +kernel
theorem dL_load_34 : decode cL_load 34 = .ok (.iadd, 1) := by decide +kernel
theorem dL_load_35 : decode cL_load 35 = .ok (.aload_n 0, 1) := by decide +kernel
theorem dL_load_36 : decode cL_load 36 = .ok (.bipush 24, 2) := by decide +kernel
theorem dL_load_38 : decode cL_load 38 = .ok (.iaload, 1) := by decide +kernel
theorem dL_load_39 : decode cL_load 39 = .ok (.iadd, 1) := by decide +kernel
theorem dL_load_40 : decode cL_load 40 = .ok (.ifCond .le 7, 3) := by decide +kernel
theorem dL_load_43 : decode cL_load 43 = .ok (.iload_n 2, 1) := by decide +kernel
theorem dL_load_44 : decode cL_load 44 = .ok (.goto 4, 3) := by decide +kernel
theorem dL_load_47 : decode cL_load 47 = .ok (.iconst 0, 1) := by decide +kernel
theorem dL_load_48 : decode cL_load 48 = .ok (.ireturn, 1) := by decide +kernel
theorem dL_gives_0 : decode cL_gives 0 = .ok (.aload_n 0, 1) := by decide +kernel
theorem dL_gives_1 : decode cL_gives 1 = .ok (.bipush 10, 2) := by decide +kernel
theorem dL_gives_3 : decode cL_gives 3 = .ok (.iload_n 1, 1) := by decide +kernel
theorem dL_gives_4 : decode cL_gives 4 = .ok (.imul, 1) := by decide +kernel
theorem dL_gives_5 : decode cL_gives 5 = .ok (.iconst 4, 1) := by decide +kernel
theorem dL_gives_6 : decode cL_gives 6 = .ok (.iadd, 1) := by decide +kernel
theorem dL_gives_7 : decode cL_gives 7 = .ok (.iaload, 1) := by decide +kernel
theorem dL_gives_8 : decode cL_gives 8 = .ok (.aload_n 0, 1) := by decide +kernel
theorem dL_gives_9 : decode cL_gives 9 = .ok (.bipush 10, 2) := by decide +kernel
theorem dL_gives_11 : decode cL_gives 11 = .ok (.iload_n 1, 1) := by decide +kernel
theorem dL_gives_12 : decode cL_gives 12 = .ok (.imul, 1) := by decide +kernel
theorem dL_gives_13 : decode cL_gives 13 = .ok (.iconst 2, 1) := by decide +kernel
theorem dL_gives_14 : decode cL_gives 14 = .ok (.iadd, 1) := by decide +kernel
theorem dL_gives_15 : decode cL_gives 15 = .ok (.iaload, 1) := by decide +kernel
theorem dL_gives_16 : decode cL_gives 16 = .ok (.iload_n 2, 1) := by decide +kernel
theorem dL_gives_17 : decode cL_gives 17 = .ok (.isub, 1) := by decide +kernel
theorem dL_gives_18 : decode cL_gives 18 = .ok (.aload_n 0, 1) := by decide +kernel
theorem dL_gives_19 : decode cL_gives 19 = .ok (.bipush 10, 2) := by decide +kernel
theorem dL_gives_21 : decode cL_gives 21 = .ok (.iload_n 1, 1) := by decide +kernel
theorem dL_gives_22 : decode cL_gives 22 = .ok (.imul, 1) := by decide +kernel
theorem dL_gives_23 : decode cL_gives 23 = .ok (.iaload, 1) := by decide +kernel
theorem dL_gives_24 : decode cL_gives 24 = .ok (.imul, 1) := by decide +kernel
theorem dL_gives_25 : decode cL_gives 25 = .ok (.aload_n 0, 1) := by decide +kernel
theorem dL_gives_26 : decode cL_gives 26 = .ok (.bipush 10, 2) := by decide +kernel
theorem dL_gives_28 : decode cL_gives 28 = .ok (.iload_n 1, 1) := by decide +kernel
theorem dL_gives_29 : decode cL_gives 29 = .ok (.imul, 1) := by decide +kernel
theorem dL_gives_30 : decode cL_gives 30 = .ok (.iconst 1, 1) := by decide +kernel
theorem dL_gives_31 : decode cL_gives 31 = .ok (.iadd, 1) := by decide +kernel
theorem dL_gives_32 : decode cL_gives 32 = .ok (.iaload, 1) := by decide +kernel
theorem dL_gives_33 : decode cL_gives 33 = .ok (.idiv, 1) := by decide +kernel
theorem dL_gives_34 : decode cL_gives 34 = .ok (.imul, 1) := by decide +kernel
theorem dL_gives_35 : decode cL_gives 35 = .ok (.ireturn, 1) := by decide +kernel
set_option maxRecDepth 100000 in
theorem ggL_together_L_gives : GoodIn wsL_together wsL_gives := goodIn_r _ [4] rfl (by decide +kernel)
set_option maxRecDepth 100000 in
theorem gL_together_L_gives : GoodIn wsL_together (va_wsS RL 9 yL_gives wsL_gives) := goodIn_app (goodIn_r _ [1, 2, 3] rfl (by decide +kernel)) ggL_together_L_gives
theorem dL_together_0 : decode cL_together 0 = .ok (.aload_n 0, 1) := by decide +kernel
theorem dL_together_1 : decode cL_together 1 = .ok (.iconst 0, 1) := by decide +kernel
theorem dL_together_2 : decode cL_together 2 = .ok (.iload_n 1, 1) := by decide +kernel
theorem dL_together_3 : decode cL_together 3 = .ok (.invokestatic 9, 3) := by decide +kernel
theorem dL_together_6 : decode cL_together 6 = .ok (.aload_n 0, 1) := by decide +kernel
theorem dL_together_7 : decode cL_together 7 = .ok (.iconst 1, 1) := by decide +kernel
theorem dL_together_8 : decode cL_together 8 = .ok (.iload_n 1, 1) := by decide +kernel
theorem dL_together_9 : decode cL_together 9 = .ok (.invokestatic 9, 3) := by decide +kernel
theorem dL_together_12 : decode cL_together 12 = .ok (.iadd, 1) := by decide +kernel
theorem dL_together_13 : decode cL_together 13 = .ok (.aload_n 0, 1) := by decide +kernel
theorem dL_together_14 : decode cL_together 14 = .ok (.iconst 2, 1) := by decide +kernel
theorem dL_together_15 : decode cL_together 15 = .ok (.iload_n 1, 1) := by decide +kernel
theorem dL_together_16 : decode cL_together 16 = .ok (.invokestatic 9, 3) := by decide +kernel
theorem dL_together_19 : decode cL_together 19 = .ok (.iadd, 1) := by decide +kernel
theorem dL_together_20 : decode cL_together 20 = .ok (.ireturn, 1) := by decide +kernel
set_option maxRecDepth 100000 in
theorem ggL_frequency_L_together : GoodIn wsL_frequency wsL_together := goodIn_r _ [4, 5, 6, 3, 7] rfl (by decide +kernel)
set_option maxRecDepth 100000 in
theorem gL_frequency_L_together : GoodIn wsL_frequency (va_wsS RL 15 yL_together wsL_together) := goodIn_app (goodIn_r _ [1, 2, 3] rfl (by decide +kernel)) ggL_frequency_L_together
set_option maxRecDepth 100000 in
theorem ggL_frequency_L_load : GoodIn wsL_frequency wsL_load := goodIn_r _ [10] rfl (by decide +kernel)
set_option maxRecDepth 100000 in
theorem gL_frequency_L_load : GoodIn wsL_frequency (va_wsS RL 19 yL_load wsL_load) := goodIn_app (goodIn_r _ [8, 9, 3] rfl (by decide +kernel)) ggL_frequency_L_load
theorem dL_frequency_0 : decode cL_frequency 0 = .ok (.aload_n 0, 1) := by decide +kernel
theorem dL_frequency_1 : decode cL_frequency 1 = .ok (.iconst 4, 1) := by decide +kernel
theorem dL_frequency_2 : decode cL_frequency 2 = .ok (.iaload, 1) := by decide +kernel
theorem dL_frequency_3 : decode cL_frequency 3 = .ok (.aload_n 0, 1) := by decide +kernel
theorem dL_frequency_4 : decode cL_frequency 4 = .ok (.bipush 14, 2) := by decide +kernel
theorem dL_frequency_6 : decode cL_frequency 6 = .ok (.iaload, 1) := by decide +kernel
theorem dL_frequency_7 : decode cL_frequency 7 = .ok (.iadd, 1) := by decide +kernel
theorem dL_frequency_8 : decode cL_frequency 8 = .ok (.aload_n 0, 1) := by decide +kernel
theorem dL_frequency_9 : decode cL_frequency 9 = .ok (.bipush 24, 2) := by decide +kernel
theorem dL_frequency_11 : decode cL_frequency 11 = .ok (.iaload, 1) := by decide +kernel
theorem dL_frequency_12 : decode cL_frequency 12 = .ok (.iadd, 1) := by decide +kernel
theorem dL_frequency_13 : decode cL_frequency 13 = .ok (.ifCond .ne 5, 3) := by decide +kernel
theorem dL_frequency_16 : decode cL_frequency 16 = .ok (.iconst 0, 1) := by decide +kernel
theorem dL_frequency_17 : decode cL_frequency 17 = .ok (.ireturn, 1) := by decide +kernel
theorem dL_frequency_18 : decode cL_frequency 18 = .ok (.sipush 4700, 3) := by decide +kernel
theorem dL_frequency_21 : decode cL_frequency 21 = .ok (.istore_n 2, 1) := by decide +kernel
theorem dL_frequency_22 : decode cL_frequency 22 = .ok (.sipush 5301, 3) := by decide +kernel
theorem dL_frequency_25 : decode cL_frequency 25 = .ok (.istore_n 3, 1) := by decide +kernel
theorem dL_frequency_26 : decode cL_frequency 26 = .ok (.iload_n 3, 1) := by decide +kernel
theorem dL_frequency_27 : decode cL_frequency 27 = .ok (.iload_n 2, 1) := by decide +kernel
theorem dL_frequency_28 : decode cL_frequency 28 = .ok (.isub, 1) := by decide +kernel
theorem dL_frequency_29 : decode cL_frequency 29 = .ok (.iconst 1, 1) := by decide +kernel
theorem dL_frequency_30 : decode cL_frequency 30 = .ok (.if_icmp .le 58, 3) := by decide +kernel
theorem dL_frequency_33 : decode cL_frequency 33 = .ok (.iload_n 2, 1) := by decide +kernel
theorem dL_frequency_34 : decode cL_frequency 34 = .ok (.iload_n 3, 1) := by decide +kernel
theorem dL_frequency_35 : decode cL_frequency 35 = .ok (.iadd, 1) := by decide +kernel
theorem dL_frequency_36 : decode cL_frequency 36 = .ok (.iconst 2, 1) := by decide +kernel
theorem dL_frequency_37 : decode cL_frequency 37 = .ok (.idiv, 1) := by decide +kernel
theorem dL_frequency_38 : decode cL_frequency 38 = .ok (.istore 4, 2) := by decide +kernel
theorem dL_frequency_40 : decode cL_frequency 40 = .ok (.aload_n 0, 1) := by decide +kernel
theorem dL_frequency_41 : decode cL_frequency 41 = .ok (.iload 4, 2) := by decide +kernel
theorem dL_frequency_43 : decode cL_frequency 43 = .ok (.invokestatic 15, 3) := by decide +kernel
theorem dL_frequency_46 : decode cL_frequency 46 = .ok (.aload_n 0, 1) := by decide +kernel
theorem dL_frequency_47 : decode cL_frequency 47 = .ok (.aload_n 1, 1) := by decide +kernel
theorem dL_frequency_48 : decode cL_frequency 48 = .ok (.invokestatic 19, 3) := by decide +kernel
theorem dL_frequency_51 : decode cL_frequency 51 = .ok (.if_icmp .lt 7, 3) := by decide +kernel
theorem dL_frequency_54 : decode cL_frequency 54 = .ok (.iconst 1, 1) := by decide +kernel
theorem dL_frequency_55 : decode cL_frequency 55 = .ok (.goto 4, 3) := by decide +kernel
theorem dL_frequency_58 : decode cL_frequency 58 = .ok (.iconst 0, 1) := by decide +kernel
theorem dL_frequency_59 : decode cL_frequency 59 = .ok (.istore 5, 2) := by decide +kernel
theorem dL_frequency_61 : decode cL_frequency 61 = .ok (.iload 5, 2) := by decide +kernel
theorem dL_frequency_63 : decode cL_frequency 63 = .ok (.ifCond .eq 8, 3) := by decide +kernel
theorem dL_frequency_66 : decode cL_frequency 66 = .ok (.iload 4, 2) := by decide +kernel
theorem dL_frequency_68 : decode cL_frequency 68 = .ok (.goto 4, 3) := by decide +kernel
theorem dL_frequency_71 : decode cL_frequency 71 = .ok (.iload_n 2, 1) := by decide +kernel
theorem dL_frequency_72 : decode cL_frequency 72 = .ok (.istore_n 2, 1) := by decide +kernel
theorem dL_frequency_73 : decode cL_frequency 73 = .ok (.iload 5, 2) := by decide +kernel
theorem dL_frequency_75 : decode cL_frequency 75 = .ok (.ifCond .eq 7, 3) := by decide +kernel
theorem dL_frequency_78 : decode cL_frequency 78 = .ok (.iload_n 3, 1) := by decide +kernel
theorem dL_frequency_79 : decode cL_frequency 79 = .ok (.goto 5, 3) := by decide +kernel
theorem dL_frequency_82 : decode cL_frequency 82 = .ok (.iload 4, 2) := by decide +kernel
theorem dL_frequency_84 : decode cL_frequency 84 = .ok (.istore_n 3, 1) := by decide +kernel
theorem dL_frequency_85 : decode cL_frequency 85 = .ok (.goto (-59), 3) := by decide +kernel
theorem dL_frequency_88 : decode cL_frequency 88 = .ok (.iload_n 2, 1) := by decide +kernel
theorem dL_frequency_89 : decode cL_frequency 89 = .ok (.ireturn, 1) := by decide +kernel
set_option maxRecDepth 100000 in
theorem ggL_powers_L_frequency : GoodIn wsL_powers wsL_frequency := goodIn_r _ [4, 5, 6, 3, 7, 8, 9, 10, 11, 12, 13] rfl (by decide +kernel)
set_option maxRecDepth 100000 in
theorem gL_powers_L_frequency : GoodIn wsL_powers (va_wsS RL 23 yL_frequency wsL_frequency) := goodIn_app (goodIn_r _ [1, 2, 3] rfl (by decide +kernel)) ggL_powers_L_frequency
set_option maxRecDepth 100000 in
theorem ggL_powers_L_together : GoodIn wsL_powers wsL_together := goodIn_r _ [7, 8, 9, 3, 10] rfl (by decide +kernel)
set_option maxRecDepth 100000 in
theorem gL_powers_L_together : GoodIn wsL_powers (va_wsS RL 15 yL_together wsL_together) := goodIn_app (goodIn_r _ [5, 6, 3] rfl (by decide +kernel)) ggL_powers_L_together
set_option maxRecDepth 100000 in
theorem ggL_powers_L_load : GoodIn wsL_powers wsL_load := goodIn_r _ [13] rfl (by decide +kernel)
set_option maxRecDepth 100000 in
theorem gL_powers_L_load : GoodIn wsL_powers (va_wsS RL 19 yL_load wsL_load) := goodIn_app (goodIn_r _ [11, 12, 3] rfl (by decide +kernel)) ggL_powers_L_load
set_option maxRecDepth 100000 in
theorem ggL_powers_L_gives : GoodIn wsL_powers wsL_gives := goodIn_r _ [10] rfl (by decide +kernel)
set_option maxRecDepth 100000 in
theorem gL_powers_L_gives : GoodIn wsL_powers (va_wsS RL 9 yL_gives wsL_gives) := goodIn_app (goodIn_r _ [8, 9, 3] rfl (by decide +kernel)) ggL_powers_L_gives
theorem dL_powers_0 : decode cL_powers 0 = .ok (.aload_n 0, 1) := by decide +kernel
theorem dL_powers_1 : decode cL_powers 1 = .ok (.aload_n 1, 1) := by decide +kernel
theorem dL_powers_2 : decode cL_powers 2 = .ok (.invokestatic 23, 3) := by decide +kernel
theorem dL_powers_5 : decode cL_powers 5 = .ok (.istore_n 3, 1) := by decide +kernel
theorem dL_powers_6 : decode cL_powers 6 = .ok (.aload_n 0, 1) := by decide +kernel
theorem dL_powers_7 : decode cL_powers 7 = .ok (.iload_n 3, 1) := by decide +kernel
theorem dL_powers_8 : decode cL_powers 8 = .ok (.invokestatic 15, 3) := by decide +kernel
theorem dL_powers_11 : decode cL_powers 11 = .ok (.aload_n 0, 1) := by decide +kernel
theorem dL_powers_12 : decode cL_powers 12 = .ok (.aload_n 1, 1) := by decide +kernel
theorem dL_powers_13 : decode cL_powers 13 = .ok (.invokestatic 19, 3) := by decide +kernel
theorem dL_powers_16 : decode cL_powers 16 = .ok (.isub, 1) := by decide +kernel
theorem dL_powers_17 : decode cL_powers 17 = .ok (.istore 4, 2) := by decide +kernel
theorem dL_powers_19 : decode cL_powers 19 = .ok (.iconst 1, 1) := by decide +kernel
theorem dL_powers_20 : decode cL_powers 20 = .ok (.istore 5, 2) := by decide +kernel
theorem dL_powers_22 : decode cL_powers 22 = .ok (.iconst 0, 1) := by decide +kernel
theorem dL_powers_23 : decode cL_powers 23 = .ok (.istore 6, 2) := by decide +kernel
theorem dL_powers_25 : decode cL_powers 25 = .ok (.iload 6, 2) := by decide +kernel
theorem dL_powers_27 : decode cL_powers 27 = .ok (.iconst 3, 1) := by decide +kernel
theorem dL_powers_28 : decode cL_powers 28 = .ok (.if_icmp .ge 59, 3) := by decide +kernel
theorem dL_powers_31 : decode cL_powers 31 = .ok (.aload_n 2, 1) := by decide +kernel
theorem dL_powers_32 : decode cL_powers 32 = .ok (.iload 6, 2) := by decide +kernel
theorem dL_powers_34 : decode cL_powers 34 = .ok (.aload_n 0, 1) := by decide +kernel
theorem dL_powers_35 : decode cL_powers 35 = .ok (.iload 6, 2) := by decide +kernel
theorem dL_powers_37 : decode cL_powers 37 = .ok (.iload_n 3, 1) := by decide +kernel
theorem dL_powers_38 : decode cL_powers 38 = .ok (.invokestatic 9, 3) := by decide +kernel
theorem dL_powers_41 : decode cL_powers 41 = .ok (.iastore, 1) := by decide +kernel
theorem dL_powers_42 : decode cL_powers 42 = .ok (.aload_n 0, 1) := by decide +kernel
theorem dL_powers_43 : decode cL_powers 43 = .ok (.bipush 10, 2) := by decide +kernel
theorem dL_powers_45 : decode cL_powers 45 = .ok (.iload 6, 2) := by decide +kernel
theorem dL_powers_47 : decode cL_powers 47 = .ok (.imul, 1) := by decide +kernel
theorem dL_powers_48 : decode cL_powers 48 = .ok (.iconst 4, 1) := by decide +kernel
theorem dL_powers_49 : decode cL_powers 49 = .ok (.iadd, 1) := by decide +kernel
theorem dL_powers_50 : decode cL_powers 50 = .ok (.iaload, 1) := by decide +kernel
theorem dL_powers_51 : decode cL_powers 51 = .ok (.iconst 1, 1) := by decide +kernel
theorem dL_powers_52 : decode cL_powers 52 = .ok (.if_icmp .ne 29, 3) := by decide +kernel
theorem dL_powers_55 : decode cL_powers 55 = .ok (.iload 5, 2) := by decide +kernel
theorem dL_powers_57 : decode cL_powers 57 = .ok (.ifCond .eq 24, 3) := by decide +kernel
theorem dL_powers_60 : decode cL_powers 60 = .ok (.aload_n 2, 1) := by decide +kernel
theorem dL_powers_61 : decode cL_powers 61 = .ok (.iload 6, 2) := by decide +kernel
theorem dL_powers_63 : decode cL_powers 63 = .ok (.dup2, 1) := by decide +kernel
theorem dL_powers_64 : decode cL_powers 64 = .ok (.iaload, 1) := by decide +kernel
theorem dL_powers_65 : decode cL_powers 65 = .ok (.iload 4, 2) := by decide +kernel
theorem dL_powers_67 : decode cL_powers 67 = .ok (.ifCond .le 8, 3) := by decide +kernel
theorem dL_powers_70 : decode cL_powers 70 = .ok (.iload 4, 2) := by decide +kernel
theorem dL_powers_72 : decode cL_powers 72 = .ok (.goto 4, 3) := by decide +kernel
theorem dL_powers_75 : decode cL_powers 75 = .ok (.iconst 0, 1) := by decide +kernel
theorem dL_powers_76 : decode cL_powers 76 = .ok (.isub, 1) := by decide +kernel
theorem dL_powers_77 : decode cL_powers 77 = .ok (.iastore, 1) := by decide +kernel
theorem dL_powers_78 : decode cL_powers 78 = .ok (.iconst 0, 1) := by decide +kernel
theorem dL_powers_79 : decode cL_powers 79 = .ok (.istore 5, 2) := by decide +kernel
theorem dL_powers_81 : decode cL_powers 81 = .ok (.iinc 6 1, 3) := by decide +kernel
theorem dL_powers_84 : decode cL_powers 84 = .ok (.goto (-59), 3) := by decide +kernel
theorem dL_powers_87 : decode cL_powers 87 = .ok (.aload_n 2, 1) := by decide +kernel
theorem dL_powers_88 : decode cL_powers 88 = .ok (.iconst 3, 1) := by decide +kernel
theorem dL_powers_89 : decode cL_powers 89 = .ok (.iload 4, 2) := by decide +kernel
theorem dL_powers_91 : decode cL_powers 91 = .ok (.ifCond .ge 9, 3) := by decide +kernel
theorem dL_powers_94 : decode cL_powers 94 = .ok (.iload 4, 2) := by decide +kernel
theorem dL_powers_96 : decode cL_powers 96 = .ok (.ineg, 1) := by decide +kernel
theorem dL_powers_97 : decode cL_powers 97 = .ok (.goto 4, 3) := by decide +kernel
theorem dL_powers_100 : decode cL_powers 100 = .ok (.iconst 0, 1) := by decide +kernel
theorem dL_powers_101 : decode cL_powers 101 = .ok (.iastore, 1) := by decide +kernel
theorem dL_powers_102 : decode cL_powers 102 = .ok (.return_, 1) := by decide +kernel
theorem dL_size_0 : decode cL_size 0 = .ok (.iload_n 0, 1) := by decide +kernel
theorem dL_size_1 : decode cL_size 1 = .ok (.ifCond .ge 8, 3) := by decide +kernel
theorem dL_size_4 : decode cL_size 4 = .ok (.iload_n 0, 1) := by decide +kernel
theorem dL_size_5 : decode cL_size 5 = .ok (.ineg, 1) := by decide +kernel
theorem dL_size_6 : decode cL_size 6 = .ok (.goto 4, 3) := by decide +kernel
theorem dL_size_9 : decode cL_size 9 = .ok (.iload_n 0, 1) := by decide +kernel
theorem dL_size_10 : decode cL_size 10 = .ok (.ireturn, 1) := by decide +kernel
theorem dL_lamps_0 : decode cL_lamps 0 = .ok (.iload_n 0, 1) := by decide +kernel
theorem dL_lamps_1 : decode cL_lamps 1 = .ok (.sipush 500, 3) := by decide +kernel
theorem dL_lamps_4 : decode cL_lamps 4 = .ok (.if_icmp .le 11, 3) := by decide +kernel
theorem dL_lamps_7 : decode cL_lamps 7 = .ok (.sipush 1000, 3) := by decide +kernel
theorem dL_lamps_10 : decode cL_lamps 10 = .ok (.iload_n 0, 1) := by decide +kernel
theorem dL_lamps_11 : decode cL_lamps 11 = .ok (.isub, 1) := by decide +kernel
theorem dL_lamps_12 : decode cL_lamps 12 = .ok (.goto 4, 3) := by decide +kernel
theorem dL_lamps_15 : decode cL_lamps 15 = .ok (.iload_n 0, 1) := by decide +kernel
theorem dL_lamps_16 : decode cL_lamps 16 = .ok (.ireturn, 1) := by decide +kernel
set_option maxRecDepth 100000 in
theorem ggL_why_L_frequency : GoodIn wsL_why wsL_frequency := goodIn_r _ [4, 5, 6, 3, 7, 8, 9, 10, 11, 12, 13] rfl (by decide +kernel)
set_option maxRecDepth 100000 in
theorem gL_why_L_frequency : GoodIn wsL_why (va_wsS RL 23 yL_frequency wsL_frequency) := goodIn_app (goodIn_r _ [1, 2, 3] rfl (by decide +kernel)) ggL_why_L_frequency
set_option maxRecDepth 100000 in
theorem ggL_why_L_size : GoodIn wsL_why wsL_size := goodIn_r _ [16] rfl (by decide +kernel)
set_option maxRecDepth 100000 in
theorem gL_why_L_size : GoodIn wsL_why (va_wsS RL 26 yL_size wsL_size) := goodIn_app (goodIn_r _ [14, 15, 3] rfl (by decide +kernel)) ggL_why_L_size
set_option maxRecDepth 100000 in
theorem ggL_why_L_lamps : GoodIn wsL_why wsL_lamps := goodIn_r _ [19] rfl (by decide +kernel)
set_option maxRecDepth 100000 in
theorem gL_why_L_lamps : GoodIn wsL_why (va_wsS RL 30 yL_lamps wsL_lamps) := goodIn_app (goodIn_r _ [17, 18, 3] rfl (by decide +kernel)) ggL_why_L_lamps
theorem dL_why_0 : decode cL_why 0 = .ok (.bipush 10, 2) := by decide +kernel
theorem dL_why_2 : decode cL_why 2 = .ok (.iload_n 3, 1) := by decide +kernel
theorem dL_why_3 : decode cL_why 3 = .ok (.imul, 1) := by decide +kernel
theorem dL_why_4 : decode cL_why 4 = .ok (.istore 4, 2) := by decide +kernel
theorem dL_why_6 : decode cL_why 6 = .ok (.aload_n 0, 1) := by decide +kernel
theorem dL_why_7 : decode cL_why 7 = .ok (.aload_n 1, 1) := by decide +kernel
theorem dL_why_8 : decode cL_why 8 = .ok (.invokestatic 23, 3) := by decide +kernel
theorem dL_why_11 : decode cL_why 11 = .ok (.istore 5, 2) := by decide +kernel
theorem dL_why_13 : decode cL_why 13 = .ok (.aload_n 0, 1) := by decide +kernel
theorem dL_why_14 : decode cL_why 14 = .ok (.iload 4, 2) := by decide +kernel
theorem dL_why_16 : decode cL_why 16 = .ok (.iconst 3, 1) := by decide +kernel
theorem dL_why_17 : decode cL_why 17 = .ok (.iadd, 1) := by decide +kernel
theorem dL_why_18 : decode cL_why 18 = .ok (.iaload, 1) := by decide +kernel
theorem dL_why_19 : decode cL_why 19 = .ok (.ifCond .ne 7, 3) := by decide +kernel
theorem dL_why_22 : decode cL_why 22 = .ok (.iconst 1, 1) := by decide +kernel
theorem dL_why_23 : decode cL_why 23 = .ok (.goto 69, 3) := by decide +kernel
theorem dL_why_26 : decode cL_why 26 = .ok (.aload_n 0, 1) := by decide +kernel
theorem dL_why_27 : decode cL_why 27 = .ok (.iload 4, 2) := by decide +kernel
theorem dL_why_29 : decode cL_why 29 = .ok (.iconst 4, 1) := by decide +kernel
theorem dL_why_30 : decode cL_why 30 = .ok (.iadd, 1) := by decide +kernel
theorem dL_why_31 : decode cL_why 31 = .ok (.iaload, 1) := by decide +kernel
theorem dL_why_32 : decode cL_why 32 = .ok (.iconst 1, 1) := by decide +kernel
theorem dL_why_33 : decode cL_why 33 = .ok (.if_icmp .ne 7, 3) := by decide +kernel
theorem dL_why_36 : decode cL_why 36 = .ok (.iconst 2, 1) := by decide +kernel
theorem dL_why_37 : decode cL_why 37 = .ok (.goto 55, 3) := by decide +kernel
theorem dL_why_40 : decode cL_why 40 = .ok (.iload 5, 2) := by decide +kernel
theorem dL_why_42 : decode cL_why 42 = .ok (.ifCond .le 25, 3) := by decide +kernel
theorem dL_why_45 : decode cL_why 45 = .ok (.aload_n 0, 1) := by decide +kernel
theorem dL_why_46 : decode cL_why 46 = .ok (.iload 4, 2) := by decide +kernel
theorem dL_why_48 : decode cL_why 48 = .ok (.iconst 2, 1) := by decide +kernel
theorem dL_why_49 : decode cL_why 49 = .ok (.iadd, 1) := by decide +kernel
theorem dL_why_50 : decode cL_why 50 = .ok (.iaload, 1) := by decide +kernel
theorem dL_why_51 : decode cL_why 51 = .ok (.iload 5, 2) := by decide +kernel
theorem dL_why_53 : decode cL_why 53 = .ok (.isub, 1) := by decide +kernel
theorem dL_why_54 : decode cL_why 54 = .ok (.invokestatic 26, 3) := by decide +kernel
theorem dL_why_57 : decode cL_why 57 = .ok (.aload_n 2, 1) := by decide +kernel
theorem dL_why_58 : decode cL_why 58 = .ok (.iconst 2, 1) := by decide +kernel
theorem dL_why_59 : decode cL_why 59 = .ok (.iaload, 1) := by decide +kernel
theorem dL_why_60 : decode cL_why 60 = .ok (.if_icmp .le 7, 3) := by decide +kernel
theorem dL_why_63 : decode cL_why 63 = .ok (.iconst 3, 1) := by decide +kernel
theorem dL_why_64 : decode cL_why 64 = .ok (.goto 28, 3) := by decide +kernel
theorem dL_why_67 : decode cL_why 67 = .ok (.iload 5, 2) := by decide +kernel
theorem dL_why_69 : decode cL_why 69 = .ok (.ifCond .le 22, 3) := by decide +kernel
theorem dL_why_72 : decode cL_why 72 = .ok (.aload_n 0, 1) := by decide +kernel
theorem dL_why_73 : decode cL_why 73 = .ok (.iload 4, 2) := by decide +kernel
theorem dL_why_75 : decode cL_why 75 = .ok (.iconst 5, 1) := by decide +kernel
theorem dL_why_76 : decode cL_why 76 = .ok (.iadd, 1) := by decide +kernel
theorem dL_why_77 : decode cL_why 77 = .ok (.iaload, 1) := by decide +kernel
theorem dL_why_78 : decode cL_why 78 = .ok (.invokestatic 30, 3) := by decide +kernel
theorem dL_why_81 : decode cL_why 81 = .ok (.aload_n 2, 1) := by decide +kernel
theorem dL_why_82 : decode cL_why 82 = .ok (.iconst 3, 1) := by decide +kernel
theorem dL_why_83 : decode cL_why 83 = .ok (.iaload, 1) := by decide +kernel
theorem dL_why_84 : decode cL_why 84 = .ok (.if_icmp .le 7, 3) := by decide +kernel
theorem dL_why_87 : decode cL_why 87 = .ok (.iconst 4, 1) := by decide +kernel
theorem dL_why_88 : decode cL_why 88 = .ok (.goto 4, 3) := by decide +kernel
theorem dL_why_91 : decode cL_why 91 = .ok (.iconst 0, 1) := by decide +kernel
theorem dL_why_92 : decode cL_why 92 = .ok (.ireturn, 1) := by decide +kernel
set_option maxRecDepth 100000 in
theorem ggL_ticks_L_frequency : GoodIn wsL_ticks wsL_frequency := goodIn_r _ [4, 5, 6, 3, 7, 8, 9, 10, 11, 12, 13] rfl (by decide +kernel)
set_option maxRecDepth 100000 in
theorem gL_ticks_L_frequency : GoodIn wsL_ticks (va_wsS RL 23 yL_frequency wsL_frequency) := goodIn_app (goodIn_r _ [1, 2, 3] rfl (by decide +kernel)) ggL_ticks_L_frequency
set_option maxRecDepth 100000 in
theorem ggL_ticks_L_powers : GoodIn wsL_ticks wsL_powers := goodIn_r _ [16, 1, 2, 3, 4, 5, 6, 7, 8, 9, 10, 11, 12, 13] rfl (by decide +kernel)
set_option maxRecDepth 100000 in
theorem gL_ticks_L_powers : GoodIn wsL_ticks (va_wsS RL 33 yL_powers wsL_powers) := goodIn_app (goodIn_r _ [14, 15, 3] rfl (by decide +kernel)) ggL_ticks_L_powers
set_option maxRecDepth 100000 in
theorem ggL_ticks_L_load : GoodIn wsL_ticks wsL_load := goodIn_r _ [13] rfl (by decide +kernel)
set_option maxRecDepth 100000 in
theorem gL_ticks_L_load : GoodIn wsL_ticks (va_wsS RL 19 yL_load wsL_load) := goodIn_app (goodIn_r _ [11, 12, 3] rfl (by decide +kernel)) ggL_ticks_L_load
set_option maxRecDepth 100000 in
theorem ggL_ticks_L_opens : GoodIn wsL_ticks wsL_opens := goodIn_r _ [19, 20, 21, 3, 22] rfl (by decide +kernel)
set_option maxRecDepth 100000 in
theorem gL_ticks_L_opens : GoodIn wsL_ticks (va_wsS RL 37 yL_opens wsL_opens) := goodIn_app (goodIn_r _ [17, 18, 3] rfl (by decide +kernel)) ggL_ticks_L_opens
theorem dL_ticks_0 : decode cL_ticks 0 = .ok (.aload_n 0, 1) := by decide +kernel
theorem dL_ticks_1 : decode cL_ticks 1 = .ok (.aload_n 1, 1) := by decide +kernel
theorem dL_ticks_2 : decode cL_ticks 2 = .ok (.invokestatic 23, 3) := by decide +kernel
theorem dL_ticks_5 : decode cL_ticks 5 = .ok (.istore 4, 2) := by decide +kernel
theorem dL_ticks_7 : decode cL_ticks 7 = .ok (.aload_n 0, 1) := by decide +kernel
theorem dL_ticks_8 : decode cL_ticks 8 = .ok (.aload_n 1, 1) := by decide +kernel
theorem dL_ticks_9 : decode cL_ticks 9 = .ok (.aload_n 3, 1) := by decide +kernel
theorem dL_ticks_10 : decode cL_ticks 10 = .ok (.invokestatic 33, 3) := by decide +kernel
theorem dL_ticks_13 : decode cL_ticks 13 = .ok (.aload_n 2, 1) := by decide +kernel
theorem dL_ticks_14 : decode cL_ticks 14 = .ok (.iconst 4, 1) := by decide +kernel
theorem dL_ticks_15 : decode cL_ticks 15 = .ok (.dup2, 1) := by decide +kernel
theorem dL_ticks_16 : decode cL_ticks 16 = .ok (.iaload, 1) := by decide +kernel
theorem dL_ticks_17 : decode cL_ticks 17 = .ok (.iconst 1, 1) := by decide +kernel
theorem dL_ticks_18 : decode cL_ticks 18 = .ok (.iadd, 1) := by decide +kernel
theorem dL_ticks_19 : decode cL_ticks 19 = .ok (.iastore, 1) := by decide +kernel
theorem dL_ticks_20 : decode cL_ticks 20 = .ok (.aload_n 2, 1) := by decide +kernel
theorem dL_ticks_21 : decode cL_ticks 21 = .ok (.bipush 7, 2) := by decide +kernel
theorem dL_ticks_23 : decode cL_ticks 23 = .ok (.dup2, 1) := by decide +kernel
theorem dL_ticks_24 : decode cL_ticks 24 = .ok (.iaload, 1) := by decide +kernel
theorem dL_ticks_25 : decode cL_ticks 25 = .ok (.aload_n 0, 1) := by decide +kernel
theorem dL_ticks_26 : decode cL_ticks 26 = .ok (.aload_n 1, 1) := by decide +kernel
theorem dL_ticks_27 : decode cL_ticks 27 = .ok (.invokestatic 19, 3) := by decide +kernel
theorem dL_ticks_30 : decode cL_ticks 30 = .ok (.aload_n 3, 1) := by decide +kernel
theorem dL_ticks_31 : decode cL_ticks 31 = .ok (.iconst 3, 1) := by decide +kernel
theorem dL_ticks_32 : decode cL_ticks 32 = .ok (.iaload, 1) := by decide +kernel
theorem dL_ticks_33 : decode cL_ticks 33 = .ok (.isub, 1) := by decide +kernel
theorem dL_ticks_34 : decode cL_ticks 34 = .ok (.iadd, 1) := by decide +kernel
theorem dL_ticks_35 : decode cL_ticks 35 = .ok (.iastore, 1) := by decide +kernel
theorem dL_ticks_36 : decode cL_ticks 36 = .ok (.iconst 0, 1) := by decide +kernel
theorem dL_ticks_37 : decode cL_ticks 37 = .ok (.istore 5, 2) := by decide +kernel
theorem dL_ticks_39 : decode cL_ticks 39 = .ok (.iconst 0, 1) := by decide +kernel
theorem dL_ticks_40 : decode cL_ticks 40 = .ok (.istore 6, 2) := by decide +kernel
theorem dL_ticks_42 : decode cL_ticks 42 = .ok (.iload 6, 2) := by decide +kernel
theorem dL_ticks_44 : decode cL_ticks 44 = .ok (.iconst 3, 1) := by decide +kernel
theorem dL_ticks_45 : decode cL_ticks 45 = .ok (.if_icmp .ge 213, 3) := by decide +kernel
theorem dL_ticks_48 : decode cL_ticks 48 = .ok (.bipush 10, 2) := by decide +kernel
theorem dL_ticks_50 : decode cL_ticks 50 = .ok (.iload 6, 2) := by decide +kernel
theorem dL_ticks_52 : decode cL_ticks 52 = .ok (.imul, 1) := by decide +kernel
theorem dL_ticks_53 : decode cL_ticks 53 = .ok (.istore 7, 2) := by decide +kernel
theorem dL_ticks_55 : decode cL_ticks 55 = .ok (.aload_n 0, 1) := by decide +kernel
theorem dL_ticks_56 : decode cL_ticks 56 = .ok (.iload 7, 2) := by decide +kernel
theorem dL_ticks_58 : decode cL_ticks 58 = .ok (.bipush 8, 2) := by decide +kernel
theorem dL_ticks_60 : decode cL_ticks 60 = .ok (.iadd, 1) := by decide +kernel
theorem dL_ticks_61 : decode cL_ticks 61 = .ok (.dup2, 1) := by decide +kernel
theorem dL_ticks_62 : decode cL_ticks 62 = .ok (.iaload, 1) := by decide +kernel
theorem dL_ticks_63 : decode cL_ticks 63 = .ok (.aload_n 3, 1) := by decide +kernel
theorem dL_ticks_64 : decode cL_ticks 64 = .ok (.iload 6, 2) := by decide +kernel
theorem dL_ticks_66 : decode cL_ticks 66 = .ok (.iaload, 1) := by decide +kernel
theorem dL_ticks_67 : decode cL_ticks 67 = .ok (.iadd, 1) := by decide +kernel
theorem dL_ticks_68 : decode cL_ticks 68 = .ok (.iastore, 1) := by decide +kernel
theorem dL_ticks_69 : decode cL_ticks 69 = .ok (.aload_n 0, 1) := by decide +kernel
theorem dL_ticks_70 : decode cL_ticks 70 = .ok (.iload 7, 2) := by decide +kernel
theorem dL_ticks_72 : decode cL_ticks 72 = .ok (.iconst 4, 1) := by decide +kernel
theorem dL_ticks_73 : decode cL_ticks 73 = .ok (.iadd, 1) := by decide +kernel
theorem dL_ticks_74 : decode cL_ticks 74 = .ok (.iaload, 1) := by decide +kernel
theorem dL_ticks_75 : decode cL_ticks 75 = .ok (.iconst 1, 1) := by decide +kernel
theorem dL_ticks_76 : decode cL_ticks 76 = .ok (.if_icmp .ne 131, 3) := by decide +kernel
theorem dL_ticks_79 : decode cL_ticks 79 = .ok (.aload_n 0, 1) := by decide +kernel
theorem dL_ticks_80 : decode cL_ticks 80 = .ok (.iload 7, 2) := by decide +kernel
theorem dL_ticks_82 : decode cL_ticks 82 = .ok (.bipush 6, 2) := by decide +kernel
theorem dL_ticks_84 : decode cL_ticks 84 = .ok (.iadd, 1) := by decide +kernel
theorem dL_ticks_85 : decode cL_ticks 85 = .ok (.aload_n 3, 1) := by decide +kernel
theorem dL_ticks_86 : decode cL_ticks 86 = .ok (.iload 6, 2) := by decide +kernel
theorem dL_ticks_88 : decode cL_ticks 88 = .ok (.iaload, 1) := by decide +kernel
theorem dL_ticks_89 : decode cL_ticks 89 = .ok (.aload_n 0, 1) := by decide +kernel
theorem dL_ticks_90 : decode cL_ticks 90 = .ok (.iload 7, 2) := by decide +kernel
theorem dL_ticks_92 : decode cL_ticks 92 = .ok (.iaload, 1) := by decide +kernel
theorem dL_ticks_93 : decode cL_ticks 93 = .ok (.aload_n 0, 1) := by decide +kernel
theorem dL_ticks_94 : decode cL_ticks 94 = .ok (.iload 7, 2) := by decide +kernel
theorem dL_ticks_96 : decode cL_ticks 96 = .ok (.iaload, 1) := by decide +kernel
theorem dL_ticks_97 : decode cL_ticks 97 = .ok (.bipush 10, 2) := by decide +kernel
theorem dL_ticks_99 : decode cL_ticks 99 = .ok (.idiv, 1) := by decide +kernel
theorem dL_ticks_100 : decode cL_ticks 100 = .ok (.iadd, 1) := by decide +kernel
theorem dL_ticks_101 : decode cL_ticks 101 = .ok (.if_icmp .le 15, 3) := by decide +kernel
theorem dL_ticks_104 : decode cL_ticks 104 = .ok (.aload_n 0, 1) := by decide +kernel
theorem dL_ticks_105 : decode cL_ticks 105 = .ok (.iload 7, 2) := by decide +kernel
theorem dL_ticks_107 : decode cL_ticks 107 = .ok (.bipush 6, 2) := by decide +kernel
theorem dL_ticks_109 : decode cL_ticks 109 = .ok (.iadd, 1) := by decide +kernel
theorem dL_ticks_110 : decode cL_ticks 110 = .ok (.iaload, 1) := by decide +kernel
theorem dL_ticks_111 : decode cL_ticks 111 = .ok (.iconst 1, 1) := by decide +kernel
theorem dL_ticks_112 : decode cL_ticks 112 = .ok (.iadd, 1) := by decide +kernel
theorem dL_ticks_113 : decode cL_ticks 113 = .ok (.goto 4, 3) := by decide +kernel
theorem dL_ticks_116 : decode cL_ticks 116 = .ok (.iconst 0, 1) := by decide +kernel
theorem dL_ticks_117 : decode cL_ticks 117 = .ok (.iastore, 1) := by decide +kernel
theorem dL_ticks_118 : decode cL_ticks 118 = .ok (.aload_n 0, 1) := by decide +kernel
theorem dL_ticks_119 : decode cL_ticks 119 = .ok (.iload 7, 2) := by decide +kernel
theorem dL_ticks_121 : decode cL_ticks 121 = .ok (.bipush 7, 2) := by decide +kernel
theorem dL_ticks_123 : decode cL_ticks 123 = .ok (.iadd, 1) := by decide +kernel
theorem dL_ticks_124 : decode cL_ticks 124 = .ok (.aload_n 3, 1) := by decide +kernel
theorem dL_ticks_125 : decode cL_ticks 125 = .ok (.iload 6, 2) := by decide +kernel
theorem dL_ticks_127 : decode cL_ticks 127 = .ok (.iaload, 1) := by decide +kernel
theorem dL_ticks_128 : decode cL_ticks 128 = .ok (.aload_n 0, 1) := by decide +kernel
theorem dL_ticks_129 : decode cL_ticks 129 = .ok (.iload 7, 2) := by decide +kernel
theorem dL_ticks_131 : decode cL_ticks 131 = .ok (.iaload, 1) := by decide +kernel
theorem dL_ticks_132 : decode cL_ticks 132 = .ok (.bipush 20, 2) := by decide +kernel
theorem dL_ticks_134 : decode cL_ticks 134 = .ok (.idiv, 1) := by decide +kernel
theorem dL_ticks_135 : decode cL_ticks 135 = .ok (.iadd, 1) := by decide +kernel
theorem dL_ticks_136 : decode cL_ticks 136 = .ok (.ifCond .ge 15, 3) := by decide +kernel
theorem dL_ticks_139 : decode cL_ticks 139 = .ok (.aload_n 0, 1) := by decide +kernel
theorem dL_ticks_140 : decode cL_ticks 140 = .ok (.iload 7, 2) := by decide +kernel
theorem dL_ticks_142 : decode cL_ticks 142 = .ok (.bipush 7, 2) := by decide +kernel
theorem dL_ticks_144 : decode cL_ticks 144 = .ok (.iadd, 1) := by decide +kernel
theorem dL_ticks_145 : decode cL_ticks 145 = .ok (.iaload, 1) := by decide +kernel
theorem dL_ticks_146 : decode cL_ticks 146 = .ok (.iconst 1, 1) := by decide +kernel
theorem dL_ticks_147 : decode cL_ticks 147 = .ok (.iadd, 1) := by decide +kernel
theorem dL_ticks_148 : decode cL_ticks 148 = .ok (.goto 4, 3) := by decide +kernel
theorem dL_ticks_151 : decode cL_ticks 151 = .ok (.iconst 0, 1) := by decide +kernel
theorem dL_ticks_152 : decode cL_ticks 152 = .ok (.iastore, 1) := by decide +kernel
theorem dL_ticks_153 : decode cL_ticks 153 = .ok (.aload_n 0, 1) := by decide +kernel
theorem dL_ticks_154 : decode cL_ticks 154 = .ok (.iload 7, 2) := by decide +kernel
theorem dL_ticks_156 : decode cL_ticks 156 = .ok (.bipush 6, 2) := by decide +kernel
theorem dL_ticks_158 : decode cL_ticks 158 = .ok (.iadd, 1) := by decide +kernel
theorem dL_ticks_159 : decode cL_ticks 159 = .ok (.iaload, 1) := by decide +kernel
theorem dL_ticks_160 : decode cL_ticks 160 = .ok (.aload_n 2, 1) := by decide +kernel
theorem dL_ticks_161 : decode cL_ticks 161 = .ok (.iconst 0, 1) := by decide +kernel
theorem dL_ticks_162 : decode cL_ticks 162 = .ok (.iaload, 1) := by decide +kernel
theorem dL_ticks_163 : decode cL_ticks 163 = .ok (.if_icmp .ge 16, 3) := by decide +kernel
theorem dL_ticks_166 : decode cL_ticks 166 = .ok (.aload_n 0, 1) := by decide +kernel
theorem dL_ticks_167 : decode cL_ticks 167 = .ok (.iload 7, 2) := by decide +kernel
theorem dL_ticks_169 : decode cL_ticks 169 = .ok (.bipush 7, 2) := by decide +kernel
theorem dL_ticks_171 : decode cL_ticks 171 = .ok (.iadd, 1) := by decide +kernel
theorem dL_ticks_172 : decode cL_ticks 172 = .ok (.iaload, 1) := by decide +kernel
theorem dL_ticks_173 : decode cL_ticks 173 = .ok (.aload_n 2, 1) := by decide +kernel
theorem dL_ticks_174 : decode cL_ticks 174 = .ok (.iconst 1, 1) := by decide +kernel
theorem dL_ticks_175 : decode cL_ticks 175 = .ok (.iaload, 1) := by decide +kernel
theorem dL_ticks_176 : decode cL_ticks 176 = .ok (.if_icmp .lt 7, 3) := by decide +kernel
theorem dL_ticks_179 : decode cL_ticks 179 = .ok (.iconst 1, 1) := by decide +kernel
theorem dL_ticks_180 : decode cL_ticks 180 = .ok (.goto 4, 3) := by decide +kernel
theorem dL_ticks_183 : decode cL_ticks 183 = .ok (.iconst 0, 1) := by decide +kernel
theorem dL_ticks_184 : decode cL_ticks 184 = .ok (.istore 8, 2) := by decide +kernel
theorem dL_ticks_186 : decode cL_ticks 186 = .ok (.iload 5, 2) := by decide +kernel
theorem dL_ticks_188 : decode cL_ticks 188 = .ok (.iload 8, 2) := by decide +kernel
theorem dL_ticks_190 : decode cL_ticks 190 = .ok (.ifCond .eq 10, 3) := by decide +kernel
theorem dL_ticks_193 : decode cL_ticks 193 = .ok (.iconst 1, 1) := by decide +kernel
theorem dL_ticks_194 : decode cL_ticks 194 = .ok (.iload 6, 2) := by decide +kernel
theorem dL_ticks_196 : decode cL_ticks 196 = .ok (.ishl, 1) := by decide +kernel
theorem dL_ticks_197 : decode cL_ticks 197 = .ok (.goto 4, 3) := by decide +kernel
theorem dL_ticks_200 : decode cL_ticks 200 = .ok (.iconst 0, 1) := by decide +kernel
theorem dL_ticks_201 : decode cL_ticks 201 = .ok (.ior, 1) := by decide +kernel
theorem dL_ticks_202 : decode cL_ticks 202 = .ok (.istore 5, 2) := by decide +kernel
theorem dL_ticks_204 : decode cL_ticks 204 = .ok (.goto 48, 3) := by decide +kernel
theorem dL_ticks_207 : decode cL_ticks 207 = .ok (.aload_n 0, 1) := by decide +kernel
theorem dL_ticks_208 : decode cL_ticks 208 = .ok (.iload 7, 2) := by decide +kernel
theorem dL_ticks_210 : decode cL_ticks 210 = .ok (.iconst 3, 1) := by decide +kernel
theorem dL_ticks_211 : decode cL_ticks 211 = .ok (.iadd, 1) := by decide +kernel
theorem dL_ticks_212 : decode cL_ticks 212 = .ok (.iaload, 1) := by decide +kernel
theorem dL_ticks_213 : decode cL_ticks 213 = .ok (.iconst 1, 1) := by decide +kernel
theorem dL_ticks_214 : decode cL_ticks 214 = .ok (.if_icmp .ne 38, 3) := by decide +kernel
theorem dL_ticks_217 : decode cL_ticks 217 = .ok (.iload 4, 2) := by decide +kernel
theorem dL_ticks_219 : decode cL_ticks 219 = .ok (.ifCond .le 33, 3) := by decide +kernel
theorem dL_ticks_222 : decode cL_ticks 222 = .ok (.aload_n 0, 1) := by decide +kernel
theorem dL_ticks_223 : decode cL_ticks 223 = .ok (.iload 7, 2) := by decide +kernel
theorem dL_ticks_225 : decode cL_ticks 225 = .ok (.iconst 5, 1) := by decide +kernel
theorem dL_ticks_226 : decode cL_ticks 226 = .ok (.iadd, 1) := by decide +kernel
theorem dL_ticks_227 : decode cL_ticks 227 = .ok (.aload_n 0, 1) := by decide +kernel
theorem dL_ticks_228 : decode cL_ticks 228 = .ok (.iload 7, 2) := by decide +kernel
theorem dL_ticks_230 : decode cL_ticks 230 = .ok (.iconst 5, 1) := by decide +kernel
theorem dL_ticks_231 : decode cL_ticks 231 = .ok (.iadd, 1) := by decide +kernel
theorem dL_ticks_232 : decode cL_ticks 232 = .ok (.iaload, 1) := by decide +kernel
theorem dL_ticks_233 : decode cL_ticks 233 = .ok (.aload_n 0, 1) := by decide +kernel
theorem dL_ticks_234 : decode cL_ticks 234 = .ok (.iload 7, 2) := by decide +kernel
theorem dL_ticks_236 : decode cL_ticks 236 = .ok (.iconst 2, 1) := by decide +kernel
theorem dL_ticks_237 : decode cL_ticks 237 = .ok (.iadd, 1) := by decide +kernel
theorem dL_ticks_238 : decode cL_ticks 238 = .ok (.iaload, 1) := by decide +kernel
theorem dL_ticks_239 : decode cL_ticks 239 = .ok (.iadd, 1) := by decide +kernel
theorem dL_ticks_240 : decode cL_ticks 240 = .ok (.iload 4, 2) := by decide +kernel
theorem dL_ticks_242 : decode cL_ticks 242 = .ok (.isub, 1) := by decide +kernel
theorem dL_ticks_243 : decode cL_ticks 243 = .ok (.sipush 1000, 3) := by decide +kernel
theorem dL_ticks_246 : decode cL_ticks 246 = .ok (.iadd, 1) := by decide +kernel
theorem dL_ticks_247 : decode cL_ticks 247 = .ok (.sipush 1000, 3) := by decide +kernel
theorem dL_ticks_250 : decode cL_ticks 250 = .ok (.irem, 1) := by decide +kernel
theorem dL_ticks_251 : decode cL_ticks 251 = .ok (.iastore, 1) := by decide +kernel
theorem dL_ticks_252 : decode cL_ticks 252 = .ok (.iinc 6 1, 3) := by decide +kernel
theorem dL_ticks_255 : decode cL_ticks 255 = .ok (.goto (-213), 3) := by decide +kernel
theorem dL_ticks_258 : decode cL_ticks 258 = .ok (.iconst (-1), 1) := by decide +kernel
theorem dL_ticks_259 : decode cL_ticks 259 = .ok (.istore 6, 2) := by decide +kernel
theorem dL_ticks_261 : decode cL_ticks 261 = .ok (.iconst 0, 1) := by decide +kernel
theorem dL_ticks_262 : decode cL_ticks 262 = .ok (.istore 7, 2) := by decide +kernel
theorem dL_ticks_264 : decode cL_ticks 264 = .ok (.iload 7, 2) := by decide +kernel
theorem dL_ticks_266 : decode cL_ticks 266 = .ok (.iconst 4, 1) := by decide +kernel
theorem dL_ticks_267 : decode cL_ticks 267 = .ok (.if_icmp .ge 41, 3) := by decide +kernel
theorem dL_ticks_270 : decode cL_ticks 270 = .ok (.aload_n 3, 1) := by decide +kernel
theorem dL_ticks_271 : decode cL_ticks 271 = .ok (.iconst 3, 1) := by decide +kernel
theorem dL_ticks_272 : decode cL_ticks 272 = .ok (.iaload, 1) := by decide +kernel
theorem dL_ticks_273 : decode cL_ticks 273 = .ok (.ifCond .le 25, 3) := by decide +kernel
theorem dL_ticks_276 : decode cL_ticks 276 = .ok (.aload_n 1, 1) := by decide +kernel
theorem dL_ticks_277 : decode cL_ticks 277 = .ok (.iload 7, 2) := by decide +kernel
theorem dL_ticks_279 : decode cL_ticks 279 = .ok (.iaload, 1) := by decide +kernel
theorem dL_ticks_280 : decode cL_ticks 280 = .ok (.ifCond .le 18, 3) := by decide +kernel
theorem dL_ticks_283 : decode cL_ticks 283 = .ok (.aload_n 1, 1) := by decide +kernel
theorem dL_ticks_284 : decode cL_ticks 284 = .ok (.iconst 4, 1) := by decide +kernel
theorem dL_ticks_285 : decode cL_ticks 285 = .ok (.iload 7, 2) := by decide +kernel
theorem dL_ticks_287 : decode cL_ticks 287 = .ok (.iadd, 1) := by decide +kernel
theorem dL_ticks_288 : decode cL_ticks 288 = .ok (.iaload, 1) := by decide +kernel
theorem dL_ticks_289 : decode cL_ticks 289 = .ok (.iconst 1, 1) := by decide +kernel
theorem dL_ticks_290 : decode cL_ticks 290 = .ok (.if_icmp .ne 8, 3) := by decide +kernel
theorem dL_ticks_293 : decode cL_ticks 293 = .ok (.iload 7, 2) := by decide +kernel
theorem dL_ticks_295 : decode cL_ticks 295 = .ok (.goto 5, 3) := by decide +kernel
theorem dL_ticks_298 : decode cL_ticks 298 = .ok (.iload 6, 2) := by decide +kernel
theorem dL_ticks_300 : decode cL_ticks 300 = .ok (.istore 6, 2) := by decide +kernel
theorem dL_ticks_302 : decode cL_ticks 302 = .ok (.iinc 7 1, 3) := by decide +kernel
theorem dL_ticks_305 : decode cL_ticks 305 = .ok (.goto (-41), 3) := by decide +kernel
theorem dL_ticks_308 : decode cL_ticks 308 = .ok (.iload 6, 2) := by decide +kernel
theorem dL_ticks_310 : decode cL_ticks 310 = .ok (.ifCond .lt 29, 3) := by decide +kernel
theorem dL_ticks_313 : decode cL_ticks 313 = .ok (.aload_n 1, 1) := by decide +kernel
theorem dL_ticks_314 : decode cL_ticks 314 = .ok (.iconst 4, 1) := by decide +kernel
theorem dL_ticks_315 : decode cL_ticks 315 = .ok (.iload 6, 2) := by decide +kernel
theorem dL_ticks_317 : decode cL_ticks 317 = .ok (.iadd, 1) := by decide +kernel
theorem dL_ticks_318 : decode cL_ticks 318 = .ok (.iconst 0, 1) := by decide +kernel
theorem dL_ticks_319 : decode cL_ticks 319 = .ok (.iastore, 1) := by decide +kernel
theorem dL_ticks_320 : decode cL_ticks 320 = .ok (.aload_n 1, 1) := by decide +kernel
theorem dL_ticks_321 : decode cL_ticks 321 = .ok (.bipush 8, 2) := by decide +kernel
theorem dL_ticks_323 : decode cL_ticks 323 = .ok (.iload 6, 2) := by decide +kernel
theorem dL_ticks_325 : decode cL_ticks 325 = .ok (.iadd, 1) := by decide +kernel
theorem dL_ticks_326 : decode cL_ticks 326 = .ok (.dup2, 1) := by decide +kernel
theorem dL_ticks_327 : decode cL_ticks 327 = .ok (.iaload, 1) := by decide +kernel
theorem dL_ticks_328 : decode cL_ticks 328 = .ok (.iconst 1, 1) := by decide +kernel
theorem dL_ticks_329 : decode cL_ticks 329 = .ok (.iadd, 1) := by decide +kernel
theorem dL_ticks_330 : decode cL_ticks 330 = .ok (.iastore, 1) := by decide +kernel
theorem dL_ticks_331 : decode cL_ticks 331 = .ok (.aload_n 2, 1) := by decide +kernel
theorem dL_ticks_332 : decode cL_ticks 332 = .ok (.bipush 6, 2) := by decide +kernel
theorem dL_ticks_334 : decode cL_ticks 334 = .ok (.dup2, 1) := by decide +kernel
theorem dL_ticks_335 : decode cL_ticks 335 = .ok (.iaload, 1) := by decide +kernel
theorem dL_ticks_336 : decode cL_ticks 336 = .ok (.iconst 1, 1) := by decide +kernel
theorem dL_ticks_337 : decode cL_ticks 337 = .ok (.iadd, 1) := by decide +kernel
theorem dL_ticks_338 : decode cL_ticks 338 = .ok (.iastore, 1) := by decide +kernel
theorem dL_ticks_339 : decode cL_ticks 339 = .ok (.iconst 0, 1) := by decide +kernel
theorem dL_ticks_340 : decode cL_ticks 340 = .ok (.istore 7, 2) := by decide +kernel
theorem dL_ticks_342 : decode cL_ticks 342 = .ok (.iconst 0, 1) := by decide +kernel
theorem dL_ticks_343 : decode cL_ticks 343 = .ok (.istore 8, 2) := by decide +kernel
theorem dL_ticks_345 : decode cL_ticks 345 = .ok (.iload 8, 2) := by decide +kernel
theorem dL_ticks_347 : decode cL_ticks 347 = .ok (.iconst 3, 1) := by decide +kernel
theorem dL_ticks_348 : decode cL_ticks 348 = .ok (.if_icmp .ge 43, 3) := by decide +kernel
theorem dL_ticks_351 : decode cL_ticks 351 = .ok (.iload 5, 2) := by decide +kernel
theorem dL_ticks_353 : decode cL_ticks 353 = .ok (.iload 8, 2) := by decide +kernel
theorem dL_ticks_355 : decode cL_ticks 355 = .ok (.ishr, 1) := by decide +kernel
theorem dL_ticks_356 : decode cL_ticks 356 = .ok (.iconst 1, 1) := by decide +kernel
theorem dL_ticks_357 : decode cL_ticks 357 = .ok (.iand, 1) := by decide +kernel
theorem dL_ticks_358 : decode cL_ticks 358 = .ok (.iconst 1, 1) := by decide +kernel
theorem dL_ticks_359 : decode cL_ticks 359 = .ok (.if_icmp .ne 26, 3) := by decide +kernel
theorem dL_ticks_362 : decode cL_ticks 362 = .ok (.aload_n 0, 1) := by decide +kernel
theorem dL_ticks_363 : decode cL_ticks 363 = .ok (.iload 8, 2) := by decide +kernel
theorem dL_ticks_365 : decode cL_ticks 365 = .ok (.invokestatic 37, 3) := by decide +kernel
theorem dL_ticks_368 : decode cL_ticks 368 = .ok (.aload_n 0, 1) := by decide +kernel
theorem dL_ticks_369 : decode cL_ticks 369 = .ok (.bipush 10, 2) := by decide +kernel
theorem dL_ticks_371 : decode cL_ticks 371 = .ok (.iload 8, 2) := by decide +kernel
theorem dL_ticks_373 : decode cL_ticks 373 = .ok (.imul, 1) := by decide +kernel
theorem dL_ticks_374 : decode cL_ticks 374 = .ok (.bipush 9, 2) := by decide +kernel
theorem dL_ticks_376 : decode cL_ticks 376 = .ok (.iadd, 1) := by decide +kernel
theorem dL_ticks_377 : decode cL_ticks 377 = .ok (.dup2, 1) := by decide +kernel
theorem dL_ticks_378 : decode cL_ticks 378 = .ok (.iaload, 1) := by decide +kernel
theorem dL_ticks_379 : decode cL_ticks 379 = .ok (.iconst 1, 1) := by decide +kernel
theorem dL_ticks_380 : decode cL_ticks 380 = .ok (.iadd, 1) := by decide +kernel
theorem dL_ticks_381 : decode cL_ticks 381 = .ok (.iastore, 1) := by decide +kernel
theorem dL_ticks_382 : decode cL_ticks 382 = .ok (.iinc 7 1, 3) := by decide +kernel
theorem dL_ticks_385 : decode cL_ticks 385 = .ok (.iinc 8 1, 3) := by decide +kernel
theorem dL_ticks_388 : decode cL_ticks 388 = .ok (.goto (-43), 3) := by decide +kernel
theorem dL_ticks_391 : decode cL_ticks 391 = .ok (.aload_n 2, 1) := by decide +kernel
theorem dL_ticks_392 : decode cL_ticks 392 = .ok (.iconst 5, 1) := by decide +kernel
theorem dL_ticks_393 : decode cL_ticks 393 = .ok (.dup2, 1) := by decide +kernel
theorem dL_ticks_394 : decode cL_ticks 394 = .ok (.iaload, 1) := by decide +kernel
theorem dL_ticks_395 : decode cL_ticks 395 = .ok (.iload 7, 2) := by decide +kernel
theorem dL_ticks_397 : decode cL_ticks 397 = .ok (.iadd, 1) := by decide +kernel
theorem dL_ticks_398 : decode cL_ticks 398 = .ok (.iastore, 1) := by decide +kernel
theorem dL_ticks_399 : decode cL_ticks 399 = .ok (.iload 7, 2) := by decide +kernel
theorem dL_ticks_401 : decode cL_ticks 401 = .ok (.ireturn, 1) := by decide +kernel
set_option maxRecDepth 100000 in
theorem ggL_opens_L_rests : GoodIn wsL_opens wsL_rests := goodIn_r _ [4] rfl (by decide +kernel)
set_option maxRecDepth 100000 in
theorem gL_opens_L_rests : GoodIn wsL_opens (va_wsS RL 41 yL_rests wsL_rests) := goodIn_app (goodIn_r _ [1, 2, 3] rfl (by decide +kernel)) ggL_opens_L_rests
theorem dL_opens_0 : decode cL_opens 0 = .ok (.aload_n 0, 1) := by decide +kernel
theorem dL_opens_1 : decode cL_opens 1 = .ok (.bipush 10, 2) := by decide +kernel
theorem dL_opens_3 : decode cL_opens 3 = .ok (.iload_n 1, 1) := by decide +kernel
theorem dL_opens_4 : decode cL_opens 4 = .ok (.imul, 1) := by decide +kernel
theorem dL_opens_5 : decode cL_opens 5 = .ok (.iconst 4, 1) := by decide +kernel
theorem dL_opens_6 : decode cL_opens 6 = .ok (.iadd, 1) := by decide +kernel
theorem dL_opens_7 : decode cL_opens 7 = .ok (.iconst 0, 1) := by decide +kernel
theorem dL_opens_8 : decode cL_opens 8 = .ok (.iastore, 1) := by decide +kernel
theorem dL_opens_9 : decode cL_opens 9 = .ok (.aload_n 0, 1) := by decide +kernel
theorem dL_opens_10 : decode cL_opens 10 = .ok (.iload_n 1, 1) := by decide +kernel
theorem dL_opens_11 : decode cL_opens 11 = .ok (.invokestatic 41, 3) := by decide +kernel
theorem dL_opens_14 : decode cL_opens 14 = .ok (.return_, 1) := by decide +kernel
theorem dL_rests_0 : decode cL_rests 0 = .ok (.aload_n 0, 1) := by decide +kernel
theorem dL_rests_1 : decode cL_rests 1 = .ok (.bipush 10, 2) := by decide +kernel
theorem dL_rests_3 : decode cL_rests 3 = .ok (.iload_n 1, 1) := by decide +kernel
theorem dL_rests_4 : decode cL_rests 4 = .ok (.imul, 1) := by decide +kernel
theorem dL_rests_5 : decode cL_rests 5 = .ok (.iconst 5, 1) := by decide +kernel
theorem dL_rests_6 : decode cL_rests 6 = .ok (.iadd, 1) := by decide +kernel
theorem dL_rests_7 : decode cL_rests 7 = .ok (.iconst 0, 1) := by decide +kernel
theorem dL_rests_8 : decode cL_rests 8 = .ok (.iastore, 1) := by decide +kernel
theorem dL_rests_9 : decode cL_rests 9 = .ok (.aload_n 0, 1) := by decide +kernel
theorem dL_rests_10 : decode cL_rests 10 = .ok (.bipush 10, 2) := by decide +kernel
theorem dL_rests_12 : decode cL_rests 12 = .ok (.iload_n 1, 1) := by decide +kernel
theorem dL_rests_13 : decode cL_rests 13 = .ok (.imul, 1) := by decide +kernel
theorem dL_rests_14 : decode cL_rests 14 = .ok (.bipush 6, 2) := by decide +kernel
theorem dL_rests_16 : decode cL_rests 16 = .ok (.iadd, 1) := by decide +kernel
theorem dL_rests_17 : decode cL_rests 17 = .ok (.iconst 0, 1) := by decide +kernel
theorem dL_rests_18 : decode cL_rests 18 = .ok (.iastore, 1) := by decide +kernel
theorem dL_rests_19 : decode cL_rests 19 = .ok (.aload_n 0, 1) := by decide +kernel
theorem dL_rests_20 : decode cL_rests 20 = .ok (.bipush 10, 2) := by decide +kernel
theorem dL_rests_22 : decode cL_rests 22 = .ok (.iload_n 1, 1) := by decide +kernel
theorem dL_rests_23 : decode cL_rests 23 = .ok (.imul, 1) := by decide +kernel
theorem dL_rests_24 : decode cL_rests 24 = .ok (.bipush 7, 2) := by decide +kernel
theorem dL_rests_26 : decode cL_rests 26 = .ok (.iadd, 1) := by decide +kernel
theorem dL_rests_27 : decode cL_rests 27 = .ok (.iconst 0, 1) := by decide +kernel
theorem dL_rests_28 : decode cL_rests 28 = .ok (.iastore, 1) := by decide +kernel
theorem dL_rests_29 : decode cL_rests 29 = .ok (.return_, 1) := by decide +kernel
set_option maxRecDepth 100000 in
theorem ggL_isTold_L_powers : GoodIn wsL_isTold wsL_powers := goodIn_r _ [4, 5, 6, 3, 7, 8, 9, 10, 11, 12, 13, 14, 15, 16] rfl (by decide +kernel)
set_option maxRecDepth 100000 in
theorem gL_isTold_L_powers : GoodIn wsL_isTold (va_wsS RL 33 yL_powers wsL_powers) := goodIn_app (goodIn_r _ [1, 2, 3] rfl (by decide +kernel)) ggL_isTold_L_powers
set_option maxRecDepth 100000 in
theorem ggL_isTold_L_frequency : GoodIn wsL_isTold wsL_frequency := goodIn_r _ [7, 8, 9, 3, 10, 11, 12, 13, 14, 15, 16] rfl (by decide +kernel)
set_option maxRecDepth 100000 in
theorem gL_isTold_L_frequency : GoodIn wsL_isTold (va_wsS RL 23 yL_frequency wsL_frequency) := goodIn_app (goodIn_r _ [5, 6, 3] rfl (by decide +kernel)) ggL_isTold_L_frequency
set_option maxRecDepth 100000 in
theorem ggL_isTold_L_load : GoodIn wsL_isTold wsL_load := goodIn_r _ [16] rfl (by decide +kernel)
set_option maxRecDepth 100000 in
theorem gL_isTold_L_load : GoodIn wsL_isTold (va_wsS RL 19 yL_load wsL_load) := goodIn_app (goodIn_r _ [14, 15, 3] rfl (by decide +kernel)) ggL_isTold_L_load
set_option maxRecDepth 100000 in
theorem ggL_isTold_X5_count : GoodIn wsL_isTold wsX5_count := goodIn_ca (goodIn_r _ [21, 22, 23, 20, 24, 25, 26, 27, 28, 29, 30, 31, 32, 33, 34, 35, 36, 37, 38, 39, 40, 41, 42, 43, 44, 45, 46, 47, 48, 49, 50, 51, 52, 53, 54, 55, 56, 57, 58, 59, 60, 61, 62, 63, 64, 65, 66, 67, 68, 69, 70, 71, 72, 73, 74, 75, 76, 77, 78, 79, 80, 81, 82, 83, 84, 85, 86, 87, 88, 89, 90, 91, 92, 93, 94, 95, 96, 97, 98, 99, 100, 101, 102, 103, 104, 105, 106, 107, 108, 109, 110, 111, 112, 209, 210, 211, 212, 213, 214, 215, 216, 217, 218, 219, 220, 221, 222, 223, 224, 225, 226, 227, 228, 229, 230, 231, 232, 233, 234] rfl (by decide +kernel)) (goodIn_sub (fun _ h => List.mem_cons_of_mem _ (List.mem_append_left _ (List.mem_append_right _ h))) (by decide +kernel))
set_option maxRecDepth 100000 in
theorem gL_isTold_X5_count : GoodIn wsL_isTold (wsV RL 44 RX5 yX5_count wsX5_count) := goodIn_app (goodIn_r _ [17, 18, 19, 20] rfl (by decide +kernel)) ggL_isTold_X5_count
set_option maxRecDepth 100000 in
theorem ggL_isTold_X5_diesel : GoodIn wsL_isTold wsX5_diesel := goodIn_ca (goodIn_ca (goodIn_r _ [116, 117, 118, 20, 119, 120, 121, 122, 123, 124, 22, 23, 24, 25, 26, 125, 126, 127, 128, 31, 129, 130, 131, 132, 133, 134, 135, 136, 137, 138, 139, 140, 97, 98, 67, 68, 69, 39, 70, 41, 42, 43, 44, 45, 46, 47, 48, 49, 50, 51, 52, 53, 54, 55, 56, 57, 58, 59, 60, 61, 62, 63, 64, 65, 66, 141, 77, 78, 79, 80, 81, 82, 83, 84, 85, 86, 87, 142, 143, 144, 145, 146, 147, 148, 149, 150, 151, 152, 153, 96, 154, 155, 156, 157, 158, 159, 160, 209, 210, 211, 212, 213, 214, 215, 216, 217, 218, 219, 222, 223, 224, 225, 226, 227, 228, 229, 230, 231, 232, 233, 234] rfl (by decide +kernel)) (goodIn_sub (fun _ h => List.mem_cons_of_mem _ (List.mem_append_right _ h)) (by decide +kernel))) (goodIn_sub (fun _ h => List.mem_cons_of_mem _ (List.mem_append_left _ (List.mem_append_right _ h))) (by decide +kernel))
set_option maxRecDepth 100000 in
theorem gL_isTold_X5_diesel : GoodIn wsL_isTold (wsV RL 49 RX5 yX5_diesel wsX5_diesel) := goodIn_app (goodIn_r _ [113, 114, 115, 20] rfl (by decide +kernel)) ggL_isTold_X5_diesel
set_option maxRecDepth 100000 in
theorem ggL_isTold_L_lamps : GoodIn wsL_isTold wsL_lamps := goodIn_r _ [163] rfl (by decide +kernel)
set_option maxRecDepth 100000 in
theorem gL_isTold_L_lamps : GoodIn wsL_isTold (va_wsS RL 30 yL_lamps wsL_lamps) := goodIn_app (goodIn_r _ [161, 162, 3] rfl (by decide +kernel)) ggL_isTold_L_lamps
set_option maxRecDepth 100000 in
theorem ggL_isTold_L_why : GoodIn wsL_isTold wsL_why := goodIn_r _ [166, 5, 6, 3, 7, 8, 9, 10, 11, 12, 13, 14, 15, 16, 167, 168, 169, 161, 162, 163] rfl (by decide +kernel)
set_option maxRecDepth 100000 in
theorem gL_isTold_L_why : GoodIn wsL_isTold (va_wsS RL 53 yL_why wsL_why) := goodIn_app (goodIn_r _ [164, 165, 3] rfl (by decide +kernel)) ggL_isTold_L_why
set_option maxRecDepth 100000 in
theorem ggL_isTold_X5_line : GoodIn wsL_isTold wsX5_line := goodIn_ca (goodIn_ca (goodIn_r _ [173, 174, 175, 20, 176, 120, 121, 177, 178, 179, 22, 23, 24, 25, 26, 180, 181, 182, 183, 31, 184, 185, 186, 187, 140, 97, 98, 209, 210, 211, 212, 213, 214, 215, 216, 217, 218, 219, 232, 233, 234] rfl (by decide +kernel)) (goodIn_sub (fun _ h => List.mem_cons_of_mem _ (List.mem_append_right _ h)) (by decide +kernel))) (goodIn_sub (fun _ h => List.mem_cons_of_mem _ (List.mem_append_left _ (List.mem_append_right _ h))) (by decide +kernel))
set_option maxRecDepth 100000 in
theorem gL_isTold_X5_line : GoodIn wsL_isTold (wsV RL 57 RX5 yX5_line wsX5_line) := goodIn_app (goodIn_r _ [170, 171, 172, 20] rfl (by decide +kernel)) ggL_isTold_X5_line
set_option maxRecDepth 100000 in
theorem ggL_isTold_X5_setting : GoodIn wsL_isTold wsX5_setting := goodIn_ca (goodIn_r _ [191, 31, 192, 193, 194, 20, 195, 120, 121, 209, 210, 211, 212, 213, 214, 215, 216, 217, 218, 219] rfl (by decide +kernel)) (goodIn_sub (fun _ h => List.mem_cons_of_mem _ (List.mem_append_right _ h)) (by decide +kernel))
set_option maxRecDepth 100000 in
theorem gL_isTold_X5_setting : GoodIn wsL_isTold (wsV RL 60 RX5 yX5_setting wsX5_setting) := goodIn_app (goodIn_r _ [188, 189, 190, 20] rfl (by decide +kernel)) ggL_isTold_X5_setting
set_option maxRecDepth 100000 in
theorem ggL_isTold_X5_loadShare : GoodIn wsL_isTold wsX5_loadShare := goodIn_r _ [199, 31, 200, 201, 202, 39, 203, 45, 46, 204, 71, 48, 49, 50, 51, 52, 53, 41, 42, 43, 44, 209, 210, 211, 212, 213, 214, 215, 216, 217, 218, 219, 222, 223, 224, 225, 226, 227, 228, 229, 230, 231, 232, 233, 234] rfl (by decide +kernel)
set_option maxRecDepth 100000 in
theorem gL_isTold_X5_loadShare : GoodIn wsL_isTold (wsV RL 63 RX5 yX5_loadShare wsX5_loadShare) := goodIn_app (goodIn_r _ [196, 197, 198, 20] rfl (by decide +kernel)) ggL_isTold_X5_loadShare
set_option maxRecDepth 100000 in
theorem ggL_isTold_X5_meanPower : GoodIn wsL_isTold wsX5_meanPower := goodIn_r _ [208, 31, 32, 33, 209, 210, 211, 212, 213, 214, 215, 216, 217, 218, 219] rfl (by decide +kernel)
set_option maxRecDepth 100000 in
theorem gL_isTold_X5_meanPower : GoodIn wsL_isTold (wsV RL 67 RX5 yX5_meanPower wsX5_meanPower) := goodIn_app (goodIn_r _ [205, 206, 207, 20] rfl (by decide +kernel)) ggL_isTold_X5_meanPower
theorem dL_isTold_0 : decode cL_isTold 0 = .ok (.aload_n 1, 1) := by decide +kernel
theorem dL_isTold_1 : decode cL_isTold 1 = .ok (.aload_n 2, 1) := by decide +kernel
theorem dL_isTold_2 : decode cL_isTold 2 = .ok (.aload 4, 2) := by decide +kernel
theorem dL_isTold_4 : decode cL_isTold 4 = .ok (.invokestatic 33, 3) := by decide +kernel
theorem dL_isTold_7 : decode cL_isTold 7 = .ok (.aload_n 1, 1) := by decide +kernel
theorem dL_isTold_8 : decode cL_isTold 8 = .ok (.aload_n 2, 1) := by decide +kernel
theorem dL_isTold_9 : decode cL_isTold 9 = .ok (.invokestatic 23, 3) := by decide +kernel
theorem dL_isTold_12 : decode cL_isTold 12 = .ok (.istore 5, 2) := by decide +kernel
theorem dL_isTold_14 : decode cL_isTold 14 = .ok (.aload_n 1, 1) := by decide +kernel
theorem dL_isTold_15 : decode cL_isTold 15 = .ok (.aload_n 2, 1) := by decide +kernel
theorem dL_isTold_16 : decode cL_isTold 16 = .ok (.invokestatic 19, 3) := by decide +kernel
theorem dL_isTold_19 : decode cL_isTold 19 = .ok (.istore 6, 2) := by decide +kernel
theorem dL_isTold_21 : decode cL_isTold 21 = .ok (.aload_n 0, 1) := by decide +kernel
theorem dL_isTold_22 : decode cL_isTold 22 = .ok (.iconst 0, 1) := by decide +kernel
theorem dL_isTold_23 : decode cL_isTold 23 = .ok (.invokevirtual 44, 3) := by decide +kernel
theorem dL_isTold_26 : decode cL_isTold 26 = .ok (.aload_n 3, 1) := by decide +kernel
theorem dL_isTold_27 : decode cL_isTold 27 = .ok (.iconst 4, 1) := by decide +kernel
theorem dL_isTold_28 : decode cL_isTold 28 = .ok (.iaload, 1) := by decide +kernel
theorem dL_isTold_29 : decode cL_isTold 29 = .ok (.if_icmp .ne 169, 3) := by decide +kernel
theorem dL_isTold_32 : decode cL_isTold 32 = .ok (.aload_n 0, 1) := by decide +kernel
theorem dL_isTold_33 : decode cL_isTold 33 = .ok (.iconst 1, 1) := by decide +kernel
theorem dL_isTold_34 : decode cL_isTold 34 = .ok (.invokevirtual 44, 3) := by decide +kernel
theorem dL_isTold_37 : decode cL_isTold 37 = .ok (.iload 5, 2) := by decide +kernel
theorem dL_isTold_39 : decode cL_isTold 39 = .ok (.if_icmp .ne 159, 3) := by decide +kernel
theorem dL_isTold_42 : decode cL_isTold 42 = .ok (.aload_n 0, 1) := by decide +kernel
theorem dL_isTold_43 : decode cL_isTold 43 = .ok (.iconst 2, 1) := by decide +kernel
theorem dL_isTold_44 : decode cL_isTold 44 = .ok (.invokevirtual 44, 3) := by decide +kernel
theorem dL_isTold_47 : decode cL_isTold 47 = .ok (.iload 5, 2) := by decide +kernel
theorem dL_isTold_49 : decode cL_isTold 49 = .ok (.if_icmp .ne 149, 3) := by decide +kernel
theorem dL_isTold_52 : decode cL_isTold 52 = .ok (.aload_n 0, 1) := by decide +kernel
theorem dL_isTold_53 : decode cL_isTold 53 = .ok (.iconst 3, 1) := by decide +kernel
theorem dL_isTold_54 : decode cL_isTold 54 = .ok (.invokevirtual 44, 3) := by decide +kernel
theorem dL_isTold_57 : decode cL_isTold 57 = .ok (.iload 6, 2) := by decide +kernel
theorem dL_isTold_59 : decode cL_isTold 59 = .ok (.if_icmp .ne 139, 3) := by decide +kernel
theorem dL_isTold_62 : decode cL_isTold 62 = .ok (.aload_n 0, 1) := by decide +kernel
theorem dL_isTold_63 : decode cL_isTold 63 = .ok (.iconst 4, 1) := by decide +kernel
theorem dL_isTold_64 : decode cL_isTold 64 = .ok (.invokevirtual 44, 3) := by decide +kernel
theorem dL_isTold_67 : decode cL_isTold 67 = .ok (.aload 4, 2) := by decide +kernel
theorem dL_isTold_69 : decode cL_isTold 69 = .ok (.iconst 0, 1) := by decide +kernel
theorem dL_isTold_70 : decode cL_isTold 70 = .ok (.iaload, 1) := by decide +kernel
theorem dL_isTold_71 : decode cL_isTold 71 = .ok (.aload 4, 2) := by decide +kernel
theorem dL_isTold_73 : decode cL_isTold 73 = .ok (.iconst 1, 1) := by decide +kernel
theorem dL_isTold_74 : decode cL_isTold 74 = .ok (.iaload, 1) := by decide +kernel
theorem dL_isTold_75 : decode cL_isTold 75 = .ok (.iadd, 1) := by decide +kernel
theorem dL_isTold_76 : decode cL_isTold 76 = .ok (.aload 4, 2) := by decide +kernel
theorem dL_isTold_78 : decode cL_isTold 78 = .ok (.iconst 2, 1) := by decide +kernel
theorem dL_isTold_79 : decode cL_isTold 79 = .ok (.iaload, 1) := by decide +kernel
theorem dL_isTold_80 : decode cL_isTold 80 = .ok (.iadd, 1) := by decide +kernel
theorem dL_isTold_81 : decode cL_isTold 81 = .ok (.if_icmp .ne 117, 3) := by decide +kernel
theorem dL_isTold_84 : decode cL_isTold 84 = .ok (.aload_n 0, 1) := by decide +kernel
theorem dL_isTold_85 : decode cL_isTold 85 = .ok (.iconst 4, 1) := by decide +kernel
theorem dL_isTold_86 : decode cL_isTold 86 = .ok (.invokevirtual 44, 3) := by decide +kernel
theorem dL_isTold_89 : decode cL_isTold 89 = .ok (.aload_n 0, 1) := by decide +kernel
theorem dL_isTold_90 : decode cL_isTold 90 = .ok (.iconst 5, 1) := by decide +kernel
theorem dL_isTold_91 : decode cL_isTold 91 = .ok (.invokevirtual 44, 3) := by decide +kernel
theorem dL_isTold_94 : decode cL_isTold 94 = .ok (.iadd, 1) := by decide +kernel
theorem dL_isTold_95 : decode cL_isTold 95 = .ok (.iload 6, 2) := by decide +kernel
theorem dL_isTold_97 : decode cL_isTold 97 = .ok (.if_icmp .ne 101, 3) := by decide +kernel
theorem dL_isTold_100 : decode cL_isTold 100 = .ok (.aload_n 0, 1) := by decide +kernel
theorem dL_isTold_101 : decode cL_isTold 101 = .ok (.iconst 5, 1) := by decide +kernel
theorem dL_isTold_102 : decode cL_isTold 102 = .ok (.invokevirtual 44, 3) := by decide +kernel
theorem dL_isTold_105 : decode cL_isTold 105 = .ok (.aload 4, 2) := by decide +kernel
theorem dL_isTold_107 : decode cL_isTold 107 = .ok (.iconst 3, 1) := by decide +kernel
theorem dL_isTold_108 : decode cL_isTold 108 = .ok (.iaload, 1) := by decide +kernel
theorem dL_isTold_109 : decode cL_isTold 109 = .ok (.if_icmp .ne 89, 3) := by decide +kernel
theorem dL_isTold_112 : decode cL_isTold 112 = .ok (.aload_n 0, 1) := by decide +kernel
theorem dL_isTold_113 : decode cL_isTold 113 = .ok (.bipush 6, 2) := by decide +kernel
theorem dL_isTold_115 : decode cL_isTold 115 = .ok (.invokevirtual 44, 3) := by decide +kernel
theorem dL_isTold_118 : decode cL_isTold 118 = .ok (.aload_n 1, 1) := by decide +kernel
theorem dL_isTold_119 : decode cL_isTold 119 = .ok (.iconst 3, 1) := by decide +kernel
theorem dL_isTold_120 : decode cL_isTold 120 = .ok (.iaload, 1) := by decide +kernel
theorem dL_isTold_121 : decode cL_isTold 121 = .ok (.aload_n 1, 1) := by decide +kernel
theorem dL_isTold_122 : decode cL_isTold 122 = .ok (.bipush 13, 2) := by decide +kernel
theorem dL_isTold_124 : decode cL_isTold 124 = .ok (.iaload, 1) := by decide +kernel
theorem dL_isTold_125 : decode cL_isTold 125 = .ok (.iadd, 1) := by decide +kernel
theorem dL_isTold_126 : decode cL_isTold 126 = .ok (.aload_n 1, 1) := by decide +kernel
theorem dL_isTold_127 : decode cL_isTold 127 = .ok (.bipush 23, 2) := by decide +kernel
theorem dL_isTold_129 : decode cL_isTold 129 = .ok (.iaload, 1) := by decide +kernel
theorem dL_isTold_130 : decode cL_isTold 130 = .ok (.iadd, 1) := by decide +kernel
theorem dL_isTold_131 : decode cL_isTold 131 = .ok (.if_icmp .ne 67, 3) := by decide +kernel
theorem dL_isTold_134 : decode cL_isTold 134 = .ok (.aload_n 0, 1) := by decide +kernel
theorem dL_isTold_135 : decode cL_isTold 135 = .ok (.bipush 7, 2) := by decide +kernel
theorem dL_isTold_137 : decode cL_isTold 137 = .ok (.invokevirtual 44, 3) := by decide +kernel
theorem dL_isTold_140 : decode cL_isTold 140 = .ok (.aload_n 1, 1) := by decide +kernel
theorem dL_isTold_141 : decode cL_isTold 141 = .ok (.iconst 4, 1) := by decide +kernel
theorem dL_isTold_142 : decode cL_isTold 142 = .ok (.iaload, 1) := by decide +kernel
theorem dL_isTold_143 : decode cL_isTold 143 = .ok (.aload_n 1, 1) := by decide +kernel
theorem dL_isTold_144 : decode cL_isTold 144 = .ok (.bipush 14, 2) := by decide +kernel
theorem dL_isTold_146 : decode cL_isTold 146 = .ok (.iaload, 1) := by decide +kernel
theorem dL_isTold_147 : decode cL_isTold 147 = .ok (.iadd, 1) := by decide +kernel
theorem dL_isTold_148 : decode cL_isTold 148 = .ok (.aload_n 1, 1) := by decide +kernel
theorem dL_isTold_149 : decode cL_isTold 149 = .ok (.bipush 24, 2) := by decide +kernel
theorem dL_isTold_151 : decode cL_isTold 151 = .ok (.iaload, 1) := by decide +kernel
theorem dL_isTold_152 : decode cL_isTold 152 = .ok (.iadd, 1) := by decide +kernel
theorem dL_isTold_153 : decode cL_isTold 153 = .ok (.if_icmp .ne 45, 3) := by decide +kernel
theorem dL_isTold_156 : decode cL_isTold 156 = .ok (.aload_n 0, 1) := by decide +kernel
theorem dL_isTold_157 : decode cL_isTold 157 = .ok (.bipush 8, 2) := by decide +kernel
theorem dL_isTold_159 : decode cL_isTold 159 = .ok (.invokevirtual 44, 3) := by decide +kernel
theorem dL_isTold_162 : decode cL_isTold 162 = .ok (.aload_n 3, 1) := by decide +kernel
theorem dL_isTold_163 : decode cL_isTold 163 = .ok (.iconst 5, 1) := by decide +kernel
theorem dL_isTold_164 : decode cL_isTold 164 = .ok (.iaload, 1) := by decide +kernel
theorem dL_isTold_165 : decode cL_isTold 165 = .ok (.if_icmp .ne 33, 3) := by decide +kernel
theorem dL_isTold_168 : decode cL_isTold 168 = .ok (.aload_n 0, 1) := by decide +kernel
theorem dL_isTold_169 : decode cL_isTold 169 = .ok (.bipush 9, 2) := by decide +kernel
theorem dL_isTold_171 : decode cL_isTold 171 = .ok (.invokevirtual 44, 3) := by decide +kernel
theorem dL_isTold_174 : decode cL_isTold 174 = .ok (.aload_n 3, 1) := by decide +kernel
theorem dL_isTold_175 : decode cL_isTold 175 = .ok (.bipush 6, 2) := by decide +kernel
theorem dL_isTold_177 : decode cL_isTold 177 = .ok (.iaload, 1) := by decide +kernel
theorem dL_isTold_178 : decode cL_isTold 178 = .ok (.if_icmp .ne 20, 3) := by decide +kernel
theorem dL_isTold_181 : decode cL_isTold 181 = .ok (.aload_n 0, 1) := by decide +kernel
theorem dL_isTold_182 : decode cL_isTold 182 = .ok (.bipush 10, 2) := by decide +kernel
theorem dL_isTold_184 : decode cL_isTold 184 = .ok (.invokevirtual 44, 3) := by decide +kernel
theorem dL_isTold_187 : decode cL_isTold 187 = .ok (.aload_n 3, 1) := by decide +kernel
theorem dL_isTold_188 : decode cL_isTold 188 = .ok (.bipush 7, 2) := by decide +kernel
theorem dL_isTold_190 : decode cL_isTold 190 = .ok (.iaload, 1) := by decide +kernel
theorem dL_isTold_191 : decode cL_isTold 191 = .ok (.if_icmp .ne 7, 3) := by decide +kernel
theorem dL_isTold_194 : decode cL_isTold 194 = .ok (.iconst 1, 1) := by decide +kernel
theorem dL_isTold_195 : decode cL_isTold 195 = .ok (.goto 4, 3) := by decide +kernel
theorem dL_isTold_198 : decode cL_isTold 198 = .ok (.iconst 0, 1) := by decide +kernel
theorem dL_isTold_199 : decode cL_isTold 199 = .ok (.istore 7, 2) := by decide +kernel
theorem dL_isTold_201 : decode cL_isTold 201 = .ok (.iconst 0, 1) := by decide +kernel
theorem dL_isTold_202 : decode cL_isTold 202 = .ok (.istore 8, 2) := by decide +kernel
theorem dL_isTold_204 : decode cL_isTold 204 = .ok (.iconst 0, 1) := by decide +kernel
theorem dL_isTold_205 : decode cL_isTold 205 = .ok (.istore 9, 2) := by decide +kernel
theorem dL_isTold_207 : decode cL_isTold 207 = .ok (.iload 9, 2) := by decide +kernel
theorem dL_isTold_209 : decode cL_isTold 209 = .ok (.iconst 3, 1) := by decide +kernel
theorem dL_isTold_210 : decode cL_isTold 210 = .ok (.if_icmp .ge 237, 3) := by decide +kernel
theorem dL_isTold_213 : decode cL_isTold 213 = .ok (.iload 7, 2) := by decide +kernel
theorem dL_isTold_215 : decode cL_isTold 215 = .ok (.ifCond .eq 232, 3) := by decide +kernel
theorem dL_isTold_218 : decode cL_isTold 218 = .ok (.bipush 10, 2) := by decide +kernel
theorem dL_isTold_220 : decode cL_isTold 220 = .ok (.iload 9, 2) := by decide +kernel
theorem dL_isTold_222 : decode cL_isTold 222 = .ok (.imul, 1) := by decide +kernel
theorem dL_isTold_223 : decode cL_isTold 223 = .ok (.istore 10, 2) := by decide +kernel
theorem dL_isTold_225 : decode cL_isTold 225 = .ok (.iload 8, 2) := by decide +kernel
theorem dL_isTold_227 : decode cL_isTold 227 = .ok (.aload_n 1, 1) := by decide +kernel
theorem dL_isTold_228 : decode cL_isTold 228 = .ok (.iload 10, 2) := by decide +kernel
theorem dL_isTold_230 : decode cL_isTold 230 = .ok (.iconst 4, 1) := by decide +kernel
theorem dL_isTold_231 : decode cL_isTold 231 = .ok (.iadd, 1) := by decide +kernel
theorem dL_isTold_232 : decode cL_isTold 232 = .ok (.iaload, 1) := by decide +kernel
theorem dL_isTold_233 : decode cL_isTold 233 = .ok (.aload_n 1, 1) := by decide +kernel
theorem dL_isTold_234 : decode cL_isTold 234 = .ok (.iload 10, 2) := by decide +kernel
theorem dL_isTold_236 : decode cL_isTold 236 = .ok (.iaload, 1) := by decide +kernel
theorem dL_isTold_237 : decode cL_isTold 237 = .ok (.imul, 1) := by decide +kernel
theorem dL_isTold_238 : decode cL_isTold 238 = .ok (.iadd, 1) := by decide +kernel
theorem dL_isTold_239 : decode cL_isTold 239 = .ok (.istore 8, 2) := by decide +kernel
theorem dL_isTold_241 : decode cL_isTold 241 = .ok (.iconst 0, 1) := by decide +kernel
theorem dL_isTold_242 : decode cL_isTold 242 = .ok (.istore 11, 2) := by decide +kernel
theorem dL_isTold_244 : decode cL_isTold 244 = .ok (.iload 11, 2) := by decide +kernel
theorem dL_isTold_246 : decode cL_isTold 246 = .ok (.iconst 5, 1) := by decide +kernel
theorem dL_isTold_247 : decode cL_isTold 247 = .ok (.if_icmp .ge 39, 3) := by decide +kernel
theorem dL_isTold_250 : decode cL_isTold 250 = .ok (.iload 7, 2) := by decide +kernel
theorem dL_isTold_252 : decode cL_isTold 252 = .ok (.ifCond .eq 25, 3) := by decide +kernel
theorem dL_isTold_255 : decode cL_isTold 255 = .ok (.aload_n 0, 1) := by decide +kernel
theorem dL_isTold_256 : decode cL_isTold 256 = .ok (.iload 9, 2) := by decide +kernel
theorem dL_isTold_258 : decode cL_isTold 258 = .ok (.iload 11, 2) := by decide +kernel
theorem dL_isTold_260 : decode cL_isTold 260 = .ok (.invokevirtual 49, 3) := by decide +kernel
theorem dL_isTold_263 : decode cL_isTold 263 = .ok (.aload_n 1, 1) := by decide +kernel
theorem dL_isTold_264 : decode cL_isTold 264 = .ok (.iload 10, 2) := by decide +kernel
theorem dL_isTold_266 : decode cL_isTold 266 = .ok (.iload 11, 2) := by decide +kernel
theorem dL_isTold_268 : decode cL_isTold 268 = .ok (.iadd, 1) := by decide +kernel
theorem dL_isTold_269 : decode cL_isTold 269 = .ok (.iaload, 1) := by decide +kernel
theorem dL_isTold_270 : decode cL_isTold 270 = .ok (.if_icmp .ne 7, 3) := by decide +kernel
theorem dL_isTold_273 : decode cL_isTold 273 = .ok (.iconst 1, 1) := by decide +kernel
theorem dL_isTold_274 : decode cL_isTold 274 = .ok (.goto 4, 3) := by decide +kernel
theorem dL_isTold_277 : decode cL_isTold 277 = .ok (.iconst 0, 1) := by decide +kernel
theorem dL_isTold_278 : decode cL_isTold 278 = .ok (.istore 7, 2) := by decide +kernel
theorem dL_isTold_280 : decode cL_isTold 280 = .ok (.iinc 11 1, 3) := by decide +kernel
theorem dL_isTold_283 : decode cL_isTold 283 = .ok (.goto (-39), 3) := by decide +kernel
theorem dL_isTold_286 : decode cL_isTold 286 = .ok (.iload 7, 2) := by decide +kernel
theorem dL_isTold_288 : decode cL_isTold 288 = .ok (.ifCond .eq 150, 3) := by decide +kernel
theorem dL_isTold_291 : decode cL_isTold 291 = .ok (.aload_n 0, 1) := by decide +kernel
theorem dL_isTold_292 : decode cL_isTold 292 = .ok (.iload 9, 2) := by decide +kernel
theorem dL_isTold_294 : decode cL_isTold 294 = .ok (.iconst 5, 1) := by decide +kernel
theorem dL_isTold_295 : decode cL_isTold 295 = .ok (.invokevirtual 49, 3) := by decide +kernel
theorem dL_isTold_298 : decode cL_isTold 298 = .ok (.aload 4, 2) := by decide +kernel
theorem dL_isTold_300 : decode cL_isTold 300 = .ok (.iload 9, 2) := by decide +kernel
theorem dL_isTold_302 : decode cL_isTold 302 = .ok (.iaload, 1) := by decide +kernel
theorem dL_isTold_303 : decode cL_isTold 303 = .ok (.if_icmp .ne 135, 3) := by decide +kernel
theorem dL_isTold_306 : decode cL_isTold 306 = .ok (.aload_n 0, 1) := by decide +kernel
theorem dL_isTold_307 : decode cL_isTold 307 = .ok (.iload 9, 2) := by decide +kernel
theorem dL_isTold_309 : decode cL_isTold 309 = .ok (.bipush 6, 2) := by decide +kernel
theorem dL_isTold_311 : decode cL_isTold 311 = .ok (.invokevirtual 49, 3) := by decide +kernel
theorem dL_isTold_314 : decode cL_isTold 314 = .ok (.aload_n 1, 1) := by decide +kernel
theorem dL_isTold_315 : decode cL_isTold 315 = .ok (.iload 10, 2) := by decide +kernel
theorem dL_isTold_317 : decode cL_isTold 317 = .ok (.iconst 5, 1) := by decide +kernel
theorem dL_isTold_318 : decode cL_isTold 318 = .ok (.iadd, 1) := by decide +kernel
theorem dL_isTold_319 : decode cL_isTold 319 = .ok (.iaload, 1) := by decide +kernel
theorem dL_isTold_320 : decode cL_isTold 320 = .ok (.if_icmp .ne 118, 3) := by decide +kernel
theorem dL_isTold_323 : decode cL_isTold 323 = .ok (.aload_n 0, 1) := by decide +kernel
theorem dL_isTold_324 : decode cL_isTold 324 = .ok (.iload 9, 2) := by decide +kernel
theorem dL_isTold_326 : decode cL_isTold 326 = .ok (.bipush 7, 2) := by decide +kernel
theorem dL_isTold_328 : decode cL_isTold 328 = .ok (.invokevirtual 49, 3) := by decide +kernel
theorem dL_isTold_331 : decode cL_isTold 331 = .ok (.aload_n 1, 1) := by decide +kernel
theorem dL_isTold_332 : decode cL_isTold 332 = .ok (.iload 10, 2) := by decide +kernel
theorem dL_isTold_334 : decode cL_isTold 334 = .ok (.iconst 5, 1) := by decide +kernel
theorem dL_isTold_335 : decode cL_isTold 335 = .ok (.iadd, 1) := by decide +kernel
theorem dL_isTold_336 : decode cL_isTold 336 = .ok (.iaload, 1) := by decide +kernel
theorem dL_isTold_337 : decode cL_isTold 337 = .ok (.invokestatic 30, 3) := by decide +kernel
theorem dL_isTold_340 : decode cL_isTold 340 = .ok (.if_icmp .ne 98, 3) := by decide +kernel
theorem dL_isTold_343 : decode cL_isTold 343 = .ok (.aload_n 0, 1) := by decide +kernel
theorem dL_isTold_344 : decode cL_isTold 344 = .ok (.iload 9, 2) := by decide +kernel
theorem dL_isTold_346 : decode cL_isTold 346 = .ok (.bipush 8, 2) := by decide +kernel
theorem dL_isTold_348 : decode cL_isTold 348 = .ok (.invokevirtual 49, 3) := by decide +kernel
theorem dL_isTold_351 : decode cL_isTold 351 = .ok (.aload_n 1, 1) := by decide +kernel
theorem dL_isTold_352 : decode cL_isTold 352 = .ok (.iload 10, 2) := by decide +kernel
theorem dL_isTold_354 : decode cL_isTold 354 = .ok (.bipush 6, 2) := by decide +kernel
theorem dL_isTold_356 : decode cL_isTold 356 = .ok (.iadd, 1) := by decide +kernel
theorem dL_isTold_357 : decode cL_isTold 357 = .ok (.iaload, 1) := by decide +kernel
theorem dL_isTold_358 : decode cL_isTold 358 = .ok (.if_icmp .ne 80, 3) := by decide +kernel
theorem dL_isTold_361 : decode cL_isTold 361 = .ok (.aload_n 0, 1) := by decide +kernel
theorem dL_isTold_362 : decode cL_isTold 362 = .ok (.iload 9, 2) := by decide +kernel
theorem dL_isTold_364 : decode cL_isTold 364 = .ok (.bipush 9, 2) := by decide +kernel
theorem dL_isTold_366 : decode cL_isTold 366 = .ok (.invokevirtual 49, 3) := by decide +kernel
theorem dL_isTold_369 : decode cL_isTold 369 = .ok (.aload_n 1, 1) := by decide +kernel
theorem dL_isTold_370 : decode cL_isTold 370 = .ok (.iload 10, 2) := by decide +kernel
theorem dL_isTold_372 : decode cL_isTold 372 = .ok (.bipush 7, 2) := by decide +kernel
theorem dL_isTold_374 : decode cL_isTold 374 = .ok (.iadd, 1) := by decide +kernel
theorem dL_isTold_375 : decode cL_isTold 375 = .ok (.iaload, 1) := by decide +kernel
theorem dL_isTold_376 : decode cL_isTold 376 = .ok (.if_icmp .ne 62, 3) := by decide +kernel
theorem dL_isTold_379 : decode cL_isTold 379 = .ok (.aload_n 0, 1) := by decide +kernel
theorem dL_isTold_380 : decode cL_isTold 380 = .ok (.iload 9, 2) := by decide +kernel
theorem dL_isTold_382 : decode cL_isTold 382 = .ok (.bipush 10, 2) := by decide +kernel
theorem dL_isTold_384 : decode cL_isTold 384 = .ok (.invokevirtual 49, 3) := by decide +kernel
theorem dL_isTold_387 : decode cL_isTold 387 = .ok (.aload_n 1, 1) := by decide +kernel
theorem dL_isTold_388 : decode cL_isTold 388 = .ok (.iload 10, 2) := by decide +kernel
theorem dL_isTold_390 : decode cL_isTold 390 = .ok (.bipush 8, 2) := by decide +kernel
theorem dL_isTold_392 : decode cL_isTold 392 = .ok (.iadd, 1) := by decide +kernel
theorem dL_isTold_393 : decode cL_isTold 393 = .ok (.iaload, 1) := by decide +kernel
theorem dL_isTold_394 : decode cL_isTold 394 = .ok (.if_icmp .ne 44, 3) := by decide +kernel
theorem dL_isTold_397 : decode cL_isTold 397 = .ok (.aload_n 0, 1) := by decide +kernel
theorem dL_isTold_398 : decode cL_isTold 398 = .ok (.iload 9, 2) := by decide +kernel
theorem dL_isTold_400 : decode cL_isTold 400 = .ok (.bipush 11, 2) := by decide +kernel
theorem dL_isTold_402 : decode cL_isTold 402 = .ok (.invokevirtual 49, 3) := by decide +kernel
theorem dL_isTold_405 : decode cL_isTold 405 = .ok (.aload_n 1, 1) := by decide +kernel
theorem dL_isTold_406 : decode cL_isTold 406 = .ok (.iload 10, 2) := by decide +kernel
theorem dL_isTold_408 : decode cL_isTold 408 = .ok (.bipush 9, 2) := by decide +kernel
theorem dL_isTold_410 : decode cL_isTold 410 = .ok (.iadd, 1) := by decide +kernel
theorem dL_isTold_411 : decode cL_isTold 411 = .ok (.iaload, 1) := by decide +kernel
theorem dL_isTold_412 : decode cL_isTold 412 = .ok (.if_icmp .ne 26, 3) := by decide +kernel
theorem dL_isTold_415 : decode cL_isTold 415 = .ok (.aload_n 0, 1) := by decide +kernel
theorem dL_isTold_416 : decode cL_isTold 416 = .ok (.iload 9, 2) := by decide +kernel
theorem dL_isTold_418 : decode cL_isTold 418 = .ok (.bipush 12, 2) := by decide +kernel
theorem dL_isTold_420 : decode cL_isTold 420 = .ok (.invokevirtual 49, 3) := by decide +kernel
theorem dL_isTold_423 : decode cL_isTold 423 = .ok (.aload_n 1, 1) := by decide +kernel
theorem dL_isTold_424 : decode cL_isTold 424 = .ok (.aload_n 2, 1) := by decide +kernel
theorem dL_isTold_425 : decode cL_isTold 425 = .ok (.aload_n 3, 1) := by decide +kernel
theorem dL_isTold_426 : decode cL_isTold 426 = .ok (.iload 9, 2) := by decide +kernel
theorem dL_isTold_428 : decode cL_isTold 428 = .ok (.invokestatic 53, 3) := by decide +kernel
theorem dL_isTold_431 : decode cL_isTold 431 = .ok (.if_icmp .ne 7, 3) := by decide +kernel
theorem dL_isTold_434 : decode cL_isTold 434 = .ok (.iconst 1, 1) := by decide +kernel
theorem dL_isTold_435 : decode cL_isTold 435 = .ok (.goto 4, 3) := by decide +kernel
theorem dL_isTold_438 : decode cL_isTold 438 = .ok (.iconst 0, 1) := by decide +kernel
theorem dL_isTold_439 : decode cL_isTold 439 = .ok (.istore 7, 2) := by decide +kernel
theorem dL_isTold_441 : decode cL_isTold 441 = .ok (.iinc 9 1, 3) := by decide +kernel
theorem dL_isTold_444 : decode cL_isTold 444 = .ok (.goto (-237), 3) := by decide +kernel
theorem dL_isTold_447 : decode cL_isTold 447 = .ok (.iconst 0, 1) := by decide +kernel
theorem dL_isTold_448 : decode cL_isTold 448 = .ok (.istore 9, 2) := by decide +kernel
theorem dL_isTold_450 : decode cL_isTold 450 = .ok (.iload 9, 2) := by decide +kernel
theorem dL_isTold_452 : decode cL_isTold 452 = .ok (.iconst 4, 1) := by decide +kernel
theorem dL_isTold_453 : decode cL_isTold 453 = .ok (.if_icmp .ge 81, 3) := by decide +kernel
theorem dL_isTold_456 : decode cL_isTold 456 = .ok (.iload 7, 2) := by decide +kernel
theorem dL_isTold_458 : decode cL_isTold 458 = .ok (.ifCond .eq 67, 3) := by decide +kernel
theorem dL_isTold_461 : decode cL_isTold 461 = .ok (.aload_n 0, 1) := by decide +kernel
theorem dL_isTold_462 : decode cL_isTold 462 = .ok (.iload 9, 2) := by decide +kernel
theorem dL_isTold_464 : decode cL_isTold 464 = .ok (.iconst 0, 1) := by decide +kernel
theorem dL_isTold_465 : decode cL_isTold 465 = .ok (.invokevirtual 57, 3) := by decide +kernel
theorem dL_isTold_468 : decode cL_isTold 468 = .ok (.aload_n 2, 1) := by decide +kernel
theorem dL_isTold_469 : decode cL_isTold 469 = .ok (.iload 9, 2) := by decide +kernel
theorem dL_isTold_471 : decode cL_isTold 471 = .ok (.iaload, 1) := by decide +kernel
theorem dL_isTold_472 : decode cL_isTold 472 = .ok (.if_icmp .ne 53, 3) := by decide +kernel
theorem dL_isTold_475 : decode cL_isTold 475 = .ok (.aload_n 0, 1) := by decide +kernel
theorem dL_isTold_476 : decode cL_isTold 476 = .ok (.iload 9, 2) := by decide +kernel
theorem dL_isTold_478 : decode cL_isTold 478 = .ok (.iconst 1, 1) := by decide +kernel
theorem dL_isTold_479 : decode cL_isTold 479 = .ok (.invokevirtual 57, 3) := by decide +kernel
theorem dL_isTold_482 : decode cL_isTold 482 = .ok (.aload_n 2, 1) := by decide +kernel
theorem dL_isTold_483 : decode cL_isTold 483 = .ok (.iconst 4, 1) := by decide +kernel
theorem dL_isTold_484 : decode cL_isTold 484 = .ok (.iload 9, 2) := by decide +kernel
theorem dL_isTold_486 : decode cL_isTold 486 = .ok (.iadd, 1) := by decide +kernel
theorem dL_isTold_487 : decode cL_isTold 487 = .ok (.iaload, 1) := by decide +kernel
theorem dL_isTold_488 : decode cL_isTold 488 = .ok (.if_icmp .ne 37, 3) := by decide +kernel
theorem dL_isTold_491 : decode cL_isTold 491 = .ok (.aload_n 0, 1) := by decide +kernel
theorem dL_isTold_492 : decode cL_isTold 492 = .ok (.iload 9, 2) := by decide +kernel
theorem dL_isTold_494 : decode cL_isTold 494 = .ok (.iconst 2, 1) := by decide +kernel
theorem dL_isTold_495 : decode cL_isTold 495 = .ok (.invokevirtual 57, 3) := by decide +kernel
theorem dL_isTold_498 : decode cL_isTold 498 = .ok (.aload_n 2, 1) := by decide +kernel
theorem dL_isTold_499 : decode cL_isTold 499 = .ok (.bipush 8, 2) := by decide +kernel
theorem dL_isTold_501 : decode cL_isTold 501 = .ok (.iload 9, 2) := by decide +kernel
theorem dL_isTold_503 : decode cL_isTold 503 = .ok (.iadd, 1) := by decide +kernel
theorem dL_isTold_504 : decode cL_isTold 504 = .ok (.iaload, 1) := by decide +kernel
theorem dL_isTold_505 : decode cL_isTold 505 = .ok (.if_icmp .ne 20, 3) := by decide +kernel
theorem dL_isTold_508 : decode cL_isTold 508 = .ok (.aload_n 0, 1) := by decide +kernel
theorem dL_isTold_509 : decode cL_isTold 509 = .ok (.iload 9, 2) := by decide +kernel
theorem dL_isTold_511 : decode cL_isTold 511 = .ok (.invokevirtual 60, 3) := by decide +kernel
theorem dL_isTold_514 : decode cL_isTold 514 = .ok (.aload_n 3, 1) := by decide +kernel
theorem dL_isTold_515 : decode cL_isTold 515 = .ok (.iload 9, 2) := by decide +kernel
theorem dL_isTold_517 : decode cL_isTold 517 = .ok (.iaload, 1) := by decide +kernel
theorem dL_isTold_518 : decode cL_isTold 518 = .ok (.if_icmp .ne 7, 3) := by decide +kernel
theorem dL_isTold_521 : decode cL_isTold 521 = .ok (.iconst 1, 1) := by decide +kernel
theorem dL_isTold_522 : decode cL_isTold 522 = .ok (.goto 4, 3) := by decide +kernel
theorem dL_isTold_525 : decode cL_isTold 525 = .ok (.iconst 0, 1) := by decide +kernel
theorem dL_isTold_526 : decode cL_isTold 526 = .ok (.istore 7, 2) := by decide +kernel
theorem dL_isTold_528 : decode cL_isTold 528 = .ok (.iinc 9 1, 3) := by decide +kernel
theorem dL_isTold_531 : decode cL_isTold 531 = .ok (.goto (-81), 3) := by decide +kernel
theorem dL_isTold_534 : decode cL_isTold 534 = .ok (.iload 7, 2) := by decide +kernel
theorem dL_isTold_536 : decode cL_isTold 536 = .ok (.ifCond .eq 52, 3) := by decide +kernel
theorem dL_isTold_539 : decode cL_isTold 539 = .ok (.aload_n 1, 1) := by decide +kernel
theorem dL_isTold_540 : decode cL_isTold 540 = .ok (.bipush 8, 2) := by decide +kernel
theorem dL_isTold_542 : decode cL_isTold 542 = .ok (.iaload, 1) := by decide +kernel
theorem dL_isTold_543 : decode cL_isTold 543 = .ok (.aload_n 1, 1) := by decide +kernel
theorem dL_isTold_544 : decode cL_isTold 544 = .ok (.bipush 18, 2) := by decide +kernel
theorem dL_isTold_546 : decode cL_isTold 546 = .ok (.iaload, 1) := by decide +kernel
theorem dL_isTold_547 : decode cL_isTold 547 = .ok (.iadd, 1) := by decide +kernel
theorem dL_isTold_548 : decode cL_isTold 548 = .ok (.aload_n 1, 1) := by decide +kernel
theorem dL_isTold_549 : decode cL_isTold 549 = .ok (.bipush 28, 2) := by decide +kernel
theorem dL_isTold_551 : decode cL_isTold 551 = .ok (.iaload, 1) := by decide +kernel
theorem dL_isTold_552 : decode cL_isTold 552 = .ok (.iadd, 1) := by decide +kernel
theorem dL_isTold_553 : decode cL_isTold 553 = .ok (.aload_n 3, 1) := by decide +kernel
theorem dL_isTold_554 : decode cL_isTold 554 = .ok (.bipush 7, 2) := by decide +kernel
theorem dL_isTold_556 : decode cL_isTold 556 = .ok (.iaload, 1) := by decide +kernel
theorem dL_isTold_557 : decode cL_isTold 557 = .ok (.if_icmp .ne 31, 3) := by decide +kernel
theorem dL_isTold_560 : decode cL_isTold 560 = .ok (.aload_n 0, 1) := by decide +kernel
theorem dL_isTold_561 : decode cL_isTold 561 = .ok (.invokevirtual 63, 3) := by decide +kernel
theorem dL_isTold_564 : decode cL_isTold 564 = .ok (.iload 8, 2) := by decide +kernel
theorem dL_isTold_566 : decode cL_isTold 566 = .ok (.ifCond .ne 7, 3) := by decide +kernel
theorem dL_isTold_569 : decode cL_isTold 569 = .ok (.dconst 0, 1) := by decide +kernel
theorem dL_isTold_570 : decode cL_isTold 570 = .ok (.goto 10, 3) := by decide +kernel
theorem dL_isTold_573 : decode cL_isTold 573 = .ok (.iload 6, 2) := by decide +kernel
theorem dL_isTold_575 : decode cL_isTold 575 = .ok (.i2d, 1) := by decide +kernel
theorem dL_isTold_576 : decode cL_isTold 576 = .ok (.iload 8, 2) := by decide +kernel
theorem dL_isTold_578 : decode cL_isTold 578 = .ok (.i2d, 1) := by decide +kernel
theorem dL_isTold_579 : decode cL_isTold 579 = .ok (.ddiv, 1) := by decide +kernel
theorem dL_isTold_580 : decode cL_isTold 580 = .ok (.dcmp .l, 1) := by decide +kernel
theorem dL_isTold_581 : decode cL_isTold 581 = .ok (.ifCond .ne 7, 3) := by decide +kernel
theorem dL_isTold_584 : decode cL_isTold 584 = .ok (.iconst 1, 1) := by decide +kernel
theorem dL_isTold_585 : decode cL_isTold 585 = .ok (.goto 4, 3) := by decide +kernel
theorem dL_isTold_588 : decode cL_isTold 588 = .ok (.iconst 0, 1) := by decide +kernel
theorem dL_isTold_589 : decode cL_isTold 589 = .ok (.istore 7, 2) := by decide +kernel
theorem dL_isTold_591 : decode cL_isTold 591 = .ok (.iload 7, 2) := by decide +kernel
theorem dL_isTold_593 : decode cL_isTold 593 = .ok (.ifCond .eq 35, 3) := by decide +kernel
theorem dL_isTold_596 : decode cL_isTold 596 = .ok (.aload_n 0, 1) := by decide +kernel
theorem dL_isTold_597 : decode cL_isTold 597 = .ok (.invokevirtual 67, 3) := by decide +kernel
theorem dL_isTold_600 : decode cL_isTold 600 = .ok (.aload_n 3, 1) := by decide +kernel
theorem dL_isTold_601 : decode cL_isTold 601 = .ok (.iconst 4, 1) := by decide +kernel
theorem dL_isTold_602 : decode cL_isTold 602 = .ok (.iaload, 1) := by decide +kernel
theorem dL_isTold_603 : decode cL_isTold 603 = .ok (.ifCond .ne 7, 3) := by decide +kernel
theorem dL_isTold_606 : decode cL_isTold 606 = .ok (.fconst 0, 1) := by decide +kernel
theorem dL_isTold_607 : decode cL_isTold 607 = .ok (.goto 13, 3) := by decide +kernel
theorem dL_isTold_610 : decode cL_isTold 610 = .ok (.aload_n 3, 1) := by decide +kernel
theorem dL_isTold_611 : decode cL_isTold 611 = .ok (.bipush 7, 2) := by decide +kernel
theorem dL_isTold_613 : decode cL_isTold 613 = .ok (.iaload, 1) := by decide +kernel
theorem dL_isTold_614 : decode cL_isTold 614 = .ok (.i2f, 1) := by decide +kernel
theorem dL_isTold_615 : decode cL_isTold 615 = .ok (.aload_n 3, 1) := by decide +kernel
theorem dL_isTold_616 : decode cL_isTold 616 = .ok (.iconst 4, 1) := by decide +kernel
theorem dL_isTold_617 : decode cL_isTold 617 = .ok (.iaload, 1) := by decide +kernel
theorem dL_isTold_618 : decode cL_isTold 618 = .ok (.i2f, 1) := by decide +kernel
theorem dL_isTold_619 : decode cL_isTold 619 = .ok (.fdiv, 1) := by decide +kernel
theorem dL_isTold_620 : decode cL_isTold 620 = .ok (.fcmp .l, 1) := by decide +kernel
theorem dL_isTold_621 : decode cL_isTold 621 = .ok (.ifCond .ne 7, 3) := by decide +kernel
theorem dL_isTold_624 : decode cL_isTold 624 = .ok (.iconst 1, 1) := by decide +kernel
theorem dL_isTold_625 : decode cL_isTold 625 = .ok (.goto 4, 3) := by decide +kernel
theorem dL_isTold_628 : decode cL_isTold 628 = .ok (.iconst 0, 1) := by decide +kernel
theorem dL_isTold_629 : decode cL_isTold 629 = .ok (.ireturn, 1) := by decide +kernel
theorem dL_copy_0 : decode cL_copy 0 = .ok (.iconst 0, 1) := by decide +kernel
theorem dL_copy_1 : decode cL_copy 1 = .ok (.istore_n 2, 1) := by decide +kernel
theorem dL_copy_2 : decode cL_copy 2 = .ok (.iload_n 2, 1) := by decide +kernel
theorem dL_copy_3 : decode cL_copy 3 = .ok (.aload_n 0, 1) := by decide +kernel
theorem dL_copy_4 : decode cL_copy 4 = .ok (.arraylength, 1) := by decide +kernel
theorem dL_copy_5 : decode cL_copy 5 = .ok (.if_icmp .ge 15, 3) := by decide +kernel
theorem dL_copy_8 : decode cL_copy 8 = .ok (.aload_n 1, 1) := by decide +kernel
theorem dL_copy_9 : decode cL_copy 9 = .ok (.iload_n 2, 1) := by decide +kernel
theorem dL_copy_10 : decode cL_copy 10 = .ok (.aload_n 0, 1) := by decide +kernel
theorem dL_copy_11 : decode cL_copy 11 = .ok (.iload_n 2, 1) := by decide +kernel
theorem dL_copy_12 : decode cL_copy 12 = .ok (.iaload, 1) := by decide +kernel
theorem dL_copy_13 : decode cL_copy 13 = .ok (.iastore, 1) := by decide +kernel
theorem dL_copy_14 : decode cL_copy 14 = .ok (.iinc 2 1, 3) := by decide +kernel
theorem dL_copy_17 : decode cL_copy 17 = .ok (.goto (-15), 3) := by decide +kernel
theorem dL_copy_20 : decode cL_copy 20 = .ok (.return_, 1) := by decide +kernel
set_option maxRecDepth 100000 in
theorem ggL_would_L_low : GoodIn wsL_would wsL_low := goodIn_r _ [4, 5] rfl (by decide +kernel)
set_option maxRecDepth 100000 in
theorem gL_would_L_low : GoodIn wsL_would (va_wsS RL 71 yL_low wsL_low) := goodIn_app (goodIn_r _ [1, 2, 3] rfl (by decide +kernel)) ggL_would_L_low
set_option maxRecDepth 100000 in
theorem ggL_would_L_powers : GoodIn wsL_would wsL_powers := goodIn_r _ [8, 9, 10, 3, 11, 12, 13, 14, 15, 16, 17, 18, 19, 20] rfl (by decide +kernel)
set_option maxRecDepth 100000 in
theorem gL_would_L_powers : GoodIn wsL_would (va_wsS RL 33 yL_powers wsL_powers) := goodIn_app (goodIn_r _ [6, 7, 3] rfl (by decide +kernel)) ggL_would_L_powers
set_option maxRecDepth 100000 in
theorem ggL_would_X5_ifSpeed : GoodIn wsL_would wsX5_ifSpeed := goodIn_ca (goodIn_ca (goodIn_r _ [25, 26, 27, 24, 28, 29, 30, 31, 32, 33, 34, 35, 36, 37, 38, 39, 40, 41, 42, 43, 44, 45, 46, 47, 48, 49, 50, 51, 52, 53, 54, 55, 56, 57, 58, 59, 60, 61, 62, 63, 64, 65, 66, 67, 68, 69, 70, 71, 72, 73, 74, 75, 76, 77, 78, 79, 80, 81, 82, 83, 84, 85, 86, 87, 88, 89, 90, 91, 92, 93, 94, 95, 96, 97, 98, 99, 100, 101, 102, 103, 104, 105, 106, 107, 108, 109, 110, 111, 112, 113, 114, 115, 116, 117, 118, 204, 205, 206, 207, 208, 209, 210, 211, 212, 213, 214, 215, 216, 217, 218, 219, 220, 221, 222, 223, 224, 225, 226, 227] rfl (by decide +kernel)) (goodIn_sub (fun _ h => List.mem_cons_of_mem _ (List.mem_append_left _ (List.mem_append_right _ h))) (by decide +kernel))) (goodIn_sub (fun _ h => List.mem_cons_of_mem _ (List.mem_append_right _ h)) (by decide +kernel))
set_option maxRecDepth 100000 in
theorem gL_would_X5_ifSpeed : GoodIn wsL_would (wsV RL 74 RX5 yX5_ifSpeed wsX5_ifSpeed) := goodIn_app (goodIn_r _ [21, 22, 23, 24] rfl (by decide +kernel)) ggL_would_X5_ifSpeed
set_option maxRecDepth 100000 in
theorem ggL_would_L_frequency : GoodIn wsL_would wsL_frequency := goodIn_r _ [11, 12, 13, 3, 14, 15, 16, 17, 18, 19, 20] rfl (by decide +kernel)
set_option maxRecDepth 100000 in
theorem gL_would_L_frequency : GoodIn wsL_would (va_wsS RL 23 yL_frequency wsL_frequency) := goodIn_app (goodIn_r _ [9, 10, 3] rfl (by decide +kernel)) ggL_would_L_frequency
set_option maxRecDepth 100000 in
theorem ggL_would_L_copy : GoodIn wsL_would wsL_copy := goodIn_r _ [121] rfl (by decide +kernel)
set_option maxRecDepth 100000 in
theorem gL_would_L_copy : GoodIn wsL_would (va_wsS RL 78 yL_copy wsL_copy) := goodIn_app (goodIn_r _ [119, 120, 3] rfl (by decide +kernel)) ggL_would_L_copy
set_option maxRecDepth 100000 in
theorem ggL_would_L_why : GoodIn wsL_would wsL_why := goodIn_r _ [124, 9, 10, 3, 11, 12, 13, 14, 15, 16, 17, 18, 19, 20, 125, 126, 127, 128, 129, 130] rfl (by decide +kernel)
set_option maxRecDepth 100000 in
theorem gL_would_L_why : GoodIn wsL_would (va_wsS RL 53 yL_why wsL_why) := goodIn_app (goodIn_r _ [122, 123, 3] rfl (by decide +kernel)) ggL_would_L_why
set_option maxRecDepth 100000 in
theorem ggL_would_L_ticks : GoodIn wsL_would wsL_ticks := goodIn_r _ [133, 9, 10, 3, 11, 12, 13, 14, 15, 16, 17, 18, 19, 20, 6, 7, 8, 134, 135, 136, 137, 138, 139] rfl (by decide +kernel)
set_option maxRecDepth 100000 in
theorem gL_would_L_ticks : GoodIn wsL_would (va_wsS RL 82 yL_ticks wsL_ticks) := goodIn_app (goodIn_r _ [131, 132, 3] rfl (by decide +kernel)) ggL_would_L_ticks
set_option maxRecDepth 100000 in
theorem ggL_would_X5_closeIn : GoodIn wsL_would wsX5_closeIn := goodIn_ca (goodIn_r _ [143, 26, 27, 24, 28, 29, 30, 31, 32, 33, 144, 145, 146, 147, 44, 45, 148, 43, 47, 48, 49, 50, 51, 52, 53, 54, 55, 56, 57, 58, 59, 60, 61, 62, 63, 64, 65, 66, 67, 68, 69, 70, 71, 72, 73, 74, 75, 76, 77, 78, 79, 149, 150, 151, 152, 153, 88, 154, 155, 156, 109, 157, 84, 85, 86, 87, 158, 81, 82, 83, 89, 90, 91, 92, 93, 94, 95, 96, 97, 98, 99, 100, 101, 102, 159, 160, 161, 162, 163, 164, 165, 166, 167, 168, 169, 170, 116, 117, 118, 107, 108, 110, 171, 104, 105, 106, 111, 112, 113, 114, 172, 173, 174, 175, 176, 177, 178, 179, 180, 181, 182, 183, 184, 185, 186, 187, 188, 189, 190, 191, 192, 193, 194, 195, 196, 197, 198, 199, 204, 205, 206, 207, 208, 209, 210, 211, 212, 213, 214, 215, 216, 217, 218, 219, 220, 221, 222, 223, 224, 225, 226, 227] rfl (by decide +kernel)) (goodIn_sub (fun _ h => List.mem_cons_of_mem _ (List.mem_append_left _ (List.mem_append_right _ h))) (by decide +kernel))
set_option maxRecDepth 100000 in
theorem gL_would_X5_closeIn : GoodIn wsL_would (wsV RL 86 RX5 yX5_closeIn wsX5_closeIn) := goodIn_app (goodIn_r _ [140, 141, 142, 24] rfl (by decide +kernel)) ggL_would_X5_closeIn
set_option maxRecDepth 100000 in
theorem ggL_would_X5_nextTrip : GoodIn wsL_would wsX5_nextTrip := goodIn_r _ [203, 43, 44, 47, 48, 49, 50, 51, 52, 53, 54, 55, 56, 57, 58, 59, 60, 61, 62, 63, 64, 65, 66, 67, 68, 69, 70, 71, 72, 73, 74, 75, 76, 77, 78, 79, 166, 167, 168, 169, 158, 81, 82, 83, 84, 85, 86, 87, 88, 89, 90, 91, 92, 93, 94, 95, 96, 97, 98, 99, 100, 101, 102, 170, 116, 117, 118, 107, 108, 109, 110, 171, 104, 105, 106, 111, 112, 113, 114, 172, 173, 174, 175, 176, 177, 178, 179, 180, 181, 182, 183, 184, 185, 186, 187, 188, 189, 190, 191, 192, 193, 194, 195, 196, 197, 198, 199, 204, 205, 206, 207, 208, 209, 210, 211, 212, 213, 214, 215, 216, 217, 218, 219, 220, 221, 222, 223, 224, 225, 226, 227] rfl (by decide +kernel)
set_option maxRecDepth 100000 in
theorem gL_would_X5_nextTrip : GoodIn wsL_would (wsV RL 89 RX5 yX5_nextTrip wsX5_nextTrip) := goodIn_app (goodIn_r _ [200, 201, 202, 24] rfl (by decide +kernel)) ggL_would_X5_nextTrip
theorem dL_would_0 : decode cL_would 0 = .ok (.iload 8, 2) := by decide +kernel
theorem dL_would_2 : decode cL_would 2 = .ok (.iconst 3, 1) := by decide +kernel
theorem dL_would_3 : decode cL_would 3 = .ok (.invokestatic 71, 3) := by decide +kernel
theorem dL_would_6 : decode cL_would 6 = .ok (.istore 9, 2) := by decide +kernel
theorem dL_would_8 : decode cL_would 8 = .ok (.sipush 4700, 3) := by decide +kernel
theorem dL_would_11 : decode cL_would 11 = .ok (.iload 8, 2) := by decide +kernel
theorem dL_would_13 : decode cL_would 13 = .ok (.iconst 2, 1) := by decide +kernel
theorem dL_would_14 : decode cL_would 14 = .ok (.ishr, 1) := by decide +kernel
theorem dL_would_15 : decode cL_would 15 = .ok (.sipush 601, 3) := by decide +kernel
theorem dL_would_18 : decode cL_would 18 = .ok (.invokestatic 71, 3) := by decide +kernel
theorem dL_would_21 : decode cL_would 21 = .ok (.iadd, 1) := by decide +kernel
theorem dL_would_22 : decode cL_would 22 = .ok (.istore 10, 2) := by decide +kernel
theorem dL_would_24 : decode cL_would 24 = .ok (.aload_n 1, 1) := by decide +kernel
theorem dL_would_25 : decode cL_would 25 = .ok (.bipush 10, 2) := by decide +kernel
theorem dL_would_27 : decode cL_would 27 = .ok (.iload 9, 2) := by decide +kernel
theorem dL_would_29 : decode cL_would 29 = .ok (.imul, 1) := by decide +kernel
theorem dL_would_30 : decode cL_would 30 = .ok (.iconst 2, 1) := by decide +kernel
theorem dL_would_31 : decode cL_would 31 = .ok (.iadd, 1) := by decide +kernel
theorem dL_would_32 : decode cL_would 32 = .ok (.iaload, 1) := by decide +kernel
theorem dL_would_33 : decode cL_would 33 = .ok (.istore 11, 2) := by decide +kernel
theorem dL_would_35 : decode cL_would 35 = .ok (.aload_n 1, 1) := by decide +kernel
theorem dL_would_36 : decode cL_would 36 = .ok (.bipush 10, 2) := by decide +kernel
theorem dL_would_38 : decode cL_would 38 = .ok (.iload 9, 2) := by decide +kernel
theorem dL_would_40 : decode cL_would 40 = .ok (.imul, 1) := by decide +kernel
theorem dL_would_41 : decode cL_would 41 = .ok (.iconst 2, 1) := by decide +kernel
theorem dL_would_42 : decode cL_would 42 = .ok (.iadd, 1) := by decide +kernel
theorem dL_would_43 : decode cL_would 43 = .ok (.iload 10, 2) := by decide +kernel
theorem dL_would_45 : decode cL_would 45 = .ok (.iastore, 1) := by decide +kernel
theorem dL_would_46 : decode cL_would 46 = .ok (.aload_n 1, 1) := by decide +kernel
theorem dL_would_47 : decode cL_would 47 = .ok (.aload_n 2, 1) := by decide +kernel
theorem dL_would_48 : decode cL_would 48 = .ok (.aload 4, 2) := by decide +kernel
theorem dL_would_50 : decode cL_would 50 = .ok (.invokestatic 33, 3) := by decide +kernel
theorem dL_would_53 : decode cL_would 53 = .ok (.aload_n 0, 1) := by decide +kernel
theorem dL_would_54 : decode cL_would 54 = .ok (.iload 9, 2) := by decide +kernel
theorem dL_would_56 : decode cL_would 56 = .ok (.iload 10, 2) := by decide +kernel
theorem dL_would_58 : decode cL_would 58 = .ok (.iconst 0, 1) := by decide +kernel
theorem dL_would_59 : decode cL_would 59 = .ok (.invokevirtual 74, 3) := by decide +kernel
theorem dL_would_62 : decode cL_would 62 = .ok (.aload_n 1, 1) := by decide +kernel
theorem dL_would_63 : decode cL_would 63 = .ok (.aload_n 2, 1) := by decide +kernel
theorem dL_would_64 : decode cL_would 64 = .ok (.invokestatic 23, 3) := by decide +kernel
theorem dL_would_67 : decode cL_would 67 = .ok (.if_icmp .ne 40, 3) := by decide +kernel
theorem dL_would_70 : decode cL_would 70 = .ok (.aload_n 0, 1) := by decide +kernel
theorem dL_would_71 : decode cL_would 71 = .ok (.iload 9, 2) := by decide +kernel
theorem dL_would_73 : decode cL_would 73 = .ok (.iload 10, 2) := by decide +kernel
theorem dL_would_75 : decode cL_would 75 = .ok (.iconst 1, 1) := by decide +kernel
theorem dL_would_76 : decode cL_would 76 = .ok (.invokevirtual 74, 3) := by decide +kernel
theorem dL_would_79 : decode cL_would 79 = .ok (.aload 4, 2) := by decide +kernel
theorem dL_would_81 : decode cL_would 81 = .ok (.iload 9, 2) := by decide +kernel
theorem dL_would_83 : decode cL_would 83 = .ok (.iaload, 1) := by decide +kernel
theorem dL_would_84 : decode cL_would 84 = .ok (.if_icmp .ne 23, 3) := by decide +kernel
theorem dL_would_87 : decode cL_would 87 = .ok (.aload_n 0, 1) := by decide +kernel
theorem dL_would_88 : decode cL_would 88 = .ok (.iload 9, 2) := by decide +kernel
theorem dL_would_90 : decode cL_would 90 = .ok (.iload 10, 2) := by decide +kernel
theorem dL_would_92 : decode cL_would 92 = .ok (.iconst 2, 1) := by decide +kernel
theorem dL_would_93 : decode cL_would 93 = .ok (.invokevirtual 74, 3) := by decide +kernel
theorem dL_would_96 : decode cL_would 96 = .ok (.aload 4, 2) := by decide +kernel
theorem dL_would_98 : decode cL_would 98 = .ok (.iconst 3, 1) := by decide +kernel
theorem dL_would_99 : decode cL_would 99 = .ok (.iaload, 1) := by decide +kernel
theorem dL_would_100 : decode cL_would 100 = .ok (.if_icmp .ne 7, 3) := by decide +kernel
theorem dL_would_103 : decode cL_would 103 = .ok (.iconst 1, 1) := by decide +kernel
theorem dL_would_104 : decode cL_would 104 = .ok (.goto 4, 3) := by decide +kernel
theorem dL_would_107 : decode cL_would 107 = .ok (.iconst 0, 1) := by decide +kernel
theorem dL_would_108 : decode cL_would 108 = .ok (.istore 12, 2) := by decide +kernel
theorem dL_would_110 : decode cL_would 110 = .ok (.aload_n 1, 1) := by decide +kernel
theorem dL_would_111 : decode cL_would 111 = .ok (.bipush 10, 2) := by decide +kernel
theorem dL_would_113 : decode cL_would 113 = .ok (.iload 9, 2) := by decide +kernel
theorem dL_would_115 : decode cL_would 115 = .ok (.imul, 1) := by decide +kernel
theorem dL_would_116 : decode cL_would 116 = .ok (.iconst 2, 1) := by decide +kernel
theorem dL_would_117 : decode cL_would 117 = .ok (.iadd, 1) := by decide +kernel
theorem dL_would_118 : decode cL_would 118 = .ok (.iload 11, 2) := by decide +kernel
theorem dL_would_120 : decode cL_would 120 = .ok (.iastore, 1) := by decide +kernel
theorem dL_would_121 : decode cL_would 121 = .ok (.aload_n 1, 1) := by decide +kernel
theorem dL_would_122 : decode cL_would 122 = .ok (.aload 5, 2) := by decide +kernel
theorem dL_would_124 : decode cL_would 124 = .ok (.invokestatic 78, 3) := by decide +kernel
theorem dL_would_127 : decode cL_would 127 = .ok (.aload_n 2, 1) := by decide +kernel
theorem dL_would_128 : decode cL_would 128 = .ok (.aload 6, 2) := by decide +kernel
theorem dL_would_130 : decode cL_would 130 = .ok (.invokestatic 78, 3) := by decide +kernel
theorem dL_would_133 : decode cL_would 133 = .ok (.aload_n 3, 1) := by decide +kernel
theorem dL_would_134 : decode cL_would 134 = .ok (.aload 7, 2) := by decide +kernel
theorem dL_would_136 : decode cL_would 136 = .ok (.invokestatic 78, 3) := by decide +kernel
theorem dL_would_139 : decode cL_would 139 = .ok (.iconst (-1), 1) := by decide +kernel
theorem dL_would_140 : decode cL_would 140 = .ok (.istore 13, 2) := by decide +kernel
theorem dL_would_142 : decode cL_would 142 = .ok (.iconst (-1), 1) := by decide +kernel
theorem dL_would_143 : decode cL_would 143 = .ok (.istore 14, 2) := by decide +kernel
theorem dL_would_145 : decode cL_would 145 = .ok (.iconst 0, 1) := by decide +kernel
theorem dL_would_146 : decode cL_would 146 = .ok (.istore 15, 2) := by decide +kernel
theorem dL_would_148 : decode cL_would 148 = .ok (.iload 15, 2) := by decide +kernel
theorem dL_would_150 : decode cL_would 150 = .ok (.sipush 500, 3) := by decide +kernel
theorem dL_would_153 : decode cL_would 153 = .ok (.if_icmp .gt 95, 3) := by decide +kernel
theorem dL_would_156 : decode cL_would 156 = .ok (.iload 13, 2) := by decide +kernel
theorem dL_would_158 : decode cL_would 158 = .ok (.ifCond .lt 15, 3) := by decide +kernel
theorem dL_would_161 : decode cL_would 161 = .ok (.iload 14, 2) := by decide +kernel
theorem dL_would_163 : decode cL_would 163 = .ok (.ifCond .ge 85, 3) := by decide +kernel
theorem dL_would_166 : decode cL_would 166 = .ok (.iload 15, 2) := by decide +kernel
theorem dL_would_168 : decode cL_would 168 = .ok (.bipush 100, 2) := by decide +kernel
theorem dL_would_170 : decode cL_would 170 = .ok (.if_icmp .ge 78, 3) := by decide +kernel
theorem dL_would_173 : decode cL_would 173 = .ok (.iload 13, 2) := by decide +kernel
theorem dL_would_175 : decode cL_would 175 = .ok (.ifCond .ge 22, 3) := by decide +kernel
theorem dL_would_178 : decode cL_would 178 = .ok (.aload 5, 2) := by decide +kernel
theorem dL_would_180 : decode cL_would 180 = .ok (.aload 6, 2) := by decide +kernel
theorem dL_would_182 : decode cL_would 182 = .ok (.aload 7, 2) := by decide +kernel
theorem dL_would_184 : decode cL_would 184 = .ok (.iload 9, 2) := by decide +kernel
theorem dL_would_186 : decode cL_would 186 = .ok (.invokestatic 53, 3) := by decide +kernel
theorem dL_would_189 : decode cL_would 189 = .ok (.ifCond .ne 8, 3) := by decide +kernel
theorem dL_would_192 : decode cL_would 192 = .ok (.iload 15, 2) := by decide +kernel
theorem dL_would_194 : decode cL_would 194 = .ok (.goto 5, 3) := by decide +kernel
theorem dL_would_197 : decode cL_would 197 = .ok (.iload 13, 2) := by decide +kernel
theorem dL_would_199 : decode cL_would 199 = .ok (.istore 13, 2) := by decide +kernel
theorem dL_would_201 : decode cL_would 201 = .ok (.aload 5, 2) := by decide +kernel
theorem dL_would_203 : decode cL_would 203 = .ok (.aload 6, 2) := by decide +kernel
theorem dL_would_205 : decode cL_would 205 = .ok (.aload 7, 2) := by decide +kernel
theorem dL_would_207 : decode cL_would 207 = .ok (.aload 4, 2) := by decide +kernel
theorem dL_would_209 : decode cL_would 209 = .ok (.invokestatic 82, 3) := by decide +kernel
theorem dL_would_212 : decode cL_would 212 = .ok (.istore 16, 2) := by decide +kernel
theorem dL_would_214 : decode cL_would 214 = .ok (.iload 14, 2) := by decide +kernel
theorem dL_would_216 : decode cL_would 216 = .ok (.ifCond .ge 22, 3) := by decide +kernel
theorem dL_would_219 : decode cL_would 219 = .ok (.iload 16, 2) := by decide +kernel
theorem dL_would_221 : decode cL_would 221 = .ok (.ifCond .le 17, 3) := by decide +kernel
theorem dL_would_224 : decode cL_would 224 = .ok (.iload 15, 2) := by decide +kernel
theorem dL_would_226 : decode cL_would 226 = .ok (.bipush 100, 2) := by decide +kernel
theorem dL_would_228 : decode cL_would 228 = .ok (.if_icmp .ge 10, 3) := by decide +kernel
theorem dL_would_231 : decode cL_would 231 = .ok (.iload 15, 2) := by decide +kernel
theorem dL_would_233 : decode cL_would 233 = .ok (.iconst 1, 1) := by decide +kernel
theorem dL_would_234 : decode cL_would 234 = .ok (.iadd, 1) := by decide +kernel
theorem dL_would_235 : decode cL_would 235 = .ok (.goto 5, 3) := by decide +kernel
theorem dL_would_238 : decode cL_would 238 = .ok (.iload 14, 2) := by decide +kernel
theorem dL_would_240 : decode cL_would 240 = .ok (.istore 14, 2) := by decide +kernel
theorem dL_would_242 : decode cL_would 242 = .ok (.iinc 15 1, 3) := by decide +kernel
theorem dL_would_245 : decode cL_would 245 = .ok (.goto (-97), 3) := by decide +kernel
theorem dL_would_248 : decode cL_would 248 = .ok (.iload 12, 2) := by decide +kernel
theorem dL_would_250 : decode cL_would 250 = .ok (.ifCond .eq 27, 3) := by decide +kernel
theorem dL_would_253 : decode cL_would 253 = .ok (.aload_n 0, 1) := by decide +kernel
theorem dL_would_254 : decode cL_would 254 = .ok (.iload 9, 2) := by decide +kernel
theorem dL_would_256 : decode cL_would 256 = .ok (.invokevirtual 86, 3) := by decide +kernel
theorem dL_would_259 : decode cL_would 259 = .ok (.iload 13, 2) := by decide +kernel
theorem dL_would_261 : decode cL_would 261 = .ok (.if_icmp .ne 16, 3) := by decide +kernel
theorem dL_would_264 : decode cL_would 264 = .ok (.aload_n 0, 1) := by decide +kernel
theorem dL_would_265 : decode cL_would 265 = .ok (.invokevirtual 89, 3) := by decide +kernel
theorem dL_would_268 : decode cL_would 268 = .ok (.iload 14, 2) := by decide +kernel
theorem dL_would_270 : decode cL_would 270 = .ok (.if_icmp .ne 7, 3) := by decide +kernel
theorem dL_would_273 : decode cL_would 273 = .ok (.iconst 1, 1) := by decide +kernel
theorem dL_would_274 : decode cL_would 274 = .ok (.goto 4, 3) := by decide +kernel
theorem dL_would_277 : decode cL_would 277 = .ok (.iconst 0, 1) := by decide +kernel
theorem dL_would_278 : decode cL_would 278 = .ok (.ireturn, 1) := by decide +kernel
set_option maxRecDepth 100000 in
theorem ggL_isFair_X5_fairSpeed : GoodIn wsL_isFair wsX5_fairSpeed := goodIn_ca (goodIn_r _ [5, 6, 7, 4, 8, 9, 10, 11, 12, 13, 14, 15, 16, 17, 18, 19, 20, 21, 22, 23, 24, 25, 26, 27, 28, 29, 30, 31, 32, 33, 34, 35, 36, 37, 38, 39, 40, 41, 42, 43, 44, 45, 46, 47, 48, 49, 50, 51, 52, 53, 54, 55, 56, 57, 58, 59, 60, 61, 62, 63, 64, 65, 66, 67, 68, 69, 70, 71, 72, 73, 74, 75, 76, 77, 78, 79, 80, 81, 82, 83, 84, 85, 86, 87, 88, 89, 90, 91, 92, 93, 94, 95, 96, 97, 98, 99, 100, 120, 121, 122, 123, 124, 125, 126, 127, 128, 129, 130, 131, 132, 133, 134, 135, 136, 137, 138, 139, 140, 141, 142, 143] rfl (by decide +kernel)) (goodIn_sub (fun _ h => List.mem_cons_of_mem _ (List.mem_append_right _ h)) (by decide +kernel))
set_option maxRecDepth 100000 in
theorem gL_isFair_X5_fairSpeed : GoodIn wsL_isFair (wsV RL 93 RX5 yX5_fairSpeed wsX5_fairSpeed) := goodIn_app (goodIn_r _ [1, 2, 3, 4] rfl (by decide +kernel)) ggL_isFair_X5_fairSpeed
set_option maxRecDepth 100000 in
theorem ggL_isFair_L_load : GoodIn wsL_isFair wsL_load := goodIn_r _ [104] rfl (by decide +kernel)
set_option maxRecDepth 100000 in
theorem gL_isFair_L_load : GoodIn wsL_isFair (va_wsS RL 19 yL_load wsL_load) := goodIn_app (goodIn_r _ [101, 102, 103] rfl (by decide +kernel)) ggL_isFair_L_load
set_option maxRecDepth 100000 in
theorem ggL_isFair_L_powers : GoodIn wsL_isFair wsL_powers := goodIn_r _ [107, 108, 109, 103, 110, 111, 112, 113, 114, 115, 116, 101, 102, 104] rfl (by decide +kernel)
set_option maxRecDepth 100000 in
theorem gL_isFair_L_powers : GoodIn wsL_isFair (va_wsS RL 33 yL_powers wsL_powers) := goodIn_app (goodIn_r _ [105, 106, 103] rfl (by decide +kernel)) ggL_isFair_L_powers
set_option maxRecDepth 100000 in
theorem ggL_isFair_L_size : GoodIn wsL_isFair wsL_size := goodIn_r _ [119] rfl (by decide +kernel)
set_option maxRecDepth 100000 in
theorem gL_isFair_L_size : GoodIn wsL_isFair (va_wsS RL 26 yL_size wsL_size) := goodIn_app (goodIn_r _ [117, 118, 103] rfl (by decide +kernel)) ggL_isFair_L_size
theorem dL_isFair_0 : decode cL_isFair 0 = .ok (.aload_n 0, 1) := by decide +kernel
theorem dL_isFair_1 : decode cL_isFair 1 = .ok (.iload 4, 2) := by decide +kernel
theorem dL_isFair_3 : decode cL_isFair 3 = .ok (.invokevirtual 93, 3) := by decide +kernel
theorem dL_isFair_6 : decode cL_isFair 6 = .ok (.istore 5, 2) := by decide +kernel
theorem dL_isFair_8 : decode cL_isFair 8 = .ok (.aload_n 1, 1) := by decide +kernel
theorem dL_isFair_9 : decode cL_isFair 9 = .ok (.bipush 10, 2) := by decide +kernel
theorem dL_isFair_11 : decode cL_isFair 11 = .ok (.iload 4, 2) := by decide +kernel
theorem dL_isFair_13 : decode cL_isFair 13 = .ok (.imul, 1) := by decide +kernel
theorem dL_isFair_14 : decode cL_isFair 14 = .ok (.iconst 4, 1) := by decide +kernel
theorem dL_isFair_15 : decode cL_isFair 15 = .ok (.iadd, 1) := by decide +kernel
theorem dL_isFair_16 : decode cL_isFair 16 = .ok (.iaload, 1) := by decide +kernel
theorem dL_isFair_17 : decode cL_isFair 17 = .ok (.ifCond .ne 15, 3) := by decide +kernel
theorem dL_isFair_20 : decode cL_isFair 20 = .ok (.iload 5, 2) := by decide +kernel
theorem dL_isFair_22 : decode cL_isFair 22 = .ok (.iconst (-1), 1) := by decide +kernel
theorem dL_isFair_23 : decode cL_isFair 23 = .ok (.if_icmp .ne 7, 3) := by decide +kernel
theorem dL_isFair_26 : decode cL_isFair 26 = .ok (.iconst 1, 1) := by decide +kernel
theorem dL_isFair_27 : decode cL_isFair 27 = .ok (.goto 4, 3) := by decide +kernel
theorem dL_isFair_30 : decode cL_isFair 30 = .ok (.iconst 0, 1) := by decide +kernel
theorem dL_isFair_31 : decode cL_isFair 31 = .ok (.ireturn, 1) := by decide +kernel
theorem dL_isFair_32 : decode cL_isFair 32 = .ok (.aload_n 1, 1) := by decide +kernel
theorem dL_isFair_33 : decode cL_isFair 33 = .ok (.aload_n 2, 1) := by decide +kernel
theorem dL_isFair_34 : decode cL_isFair 34 = .ok (.invokestatic 19, 3) := by decide +kernel
theorem dL_isFair_37 : decode cL_isFair 37 = .ok (.aload_n 1, 1) := by decide +kernel
theorem dL_isFair_38 : decode cL_isFair 38 = .ok (.bipush 10, 2) := by decide +kernel
theorem dL_isFair_40 : decode cL_isFair 40 = .ok (.iload 4, 2) := by decide +kernel
theorem dL_isFair_42 : decode cL_isFair 42 = .ok (.imul, 1) := by decide +kernel
theorem dL_isFair_43 : decode cL_isFair 43 = .ok (.iaload, 1) := by decide +kernel
theorem dL_isFair_44 : decode cL_isFair 44 = .ok (.imul, 1) := by decide +kernel
theorem dL_isFair_45 : decode cL_isFair 45 = .ok (.aload_n 1, 1) := by decide +kernel
theorem dL_isFair_46 : decode cL_isFair 46 = .ok (.iconst 4, 1) := by decide +kernel
theorem dL_isFair_47 : decode cL_isFair 47 = .ok (.iaload, 1) := by decide +kernel
theorem dL_isFair_48 : decode cL_isFair 48 = .ok (.aload_n 1, 1) := by decide +kernel
theorem dL_isFair_49 : decode cL_isFair 49 = .ok (.iconst 0, 1) := by decide +kernel
theorem dL_isFair_50 : decode cL_isFair 50 = .ok (.iaload, 1) := by decide +kernel
theorem dL_isFair_51 : decode cL_isFair 51 = .ok (.imul, 1) := by decide +kernel
theorem dL_isFair_52 : decode cL_isFair 52 = .ok (.aload_n 1, 1) := by decide +kernel
theorem dL_isFair_53 : decode cL_isFair 53 = .ok (.bipush 14, 2) := by decide +kernel
theorem dL_isFair_55 : decode cL_isFair 55 = .ok (.iaload, 1) := by decide +kernel
theorem dL_isFair_56 : decode cL_isFair 56 = .ok (.aload_n 1, 1) := by decide +kernel
theorem dL_isFair_57 : decode cL_isFair 57 = .ok (.bipush 10, 2) := by decide +kernel
theorem dL_isFair_59 : decode cL_isFair 59 = .ok (.iaload, 1) := by decide +kernel
theorem dL_isFair_60 : decode cL_isFair 60 = .ok (.imul, 1) := by decide +kernel
theorem dL_isFair_61 : decode cL_isFair 61 = .ok (.iadd, 1) := by decide +kernel
theorem dL_isFair_62 : decode cL_isFair 62 = .ok (.aload_n 1, 1) := by decide +kernel
theorem dL_isFair_63 : decode cL_isFair 63 = .ok (.bipush 24, 2) := by decide +kernel
theorem dL_isFair_65 : decode cL_isFair 65 = .ok (.iaload, 1) := by decide +kernel
theorem dL_isFair_66 : decode cL_isFair 66 = .ok (.aload_n 1, 1) := by decide +kernel
theorem dL_isFair_67 : decode cL_isFair 67 = .ok (.bipush 20, 2) := by decide +kernel
theorem dL_isFair_69 : decode cL_isFair 69 = .ok (.iaload, 1) := by decide +kernel
theorem dL_isFair_70 : decode cL_isFair 70 = .ok (.imul, 1) := by decide +kernel
theorem dL_isFair_71 : decode cL_isFair 71 = .ok (.iadd, 1) := by decide +kernel
theorem dL_isFair_72 : decode cL_isFair 72 = .ok (.idiv, 1) := by decide +kernel
theorem dL_isFair_73 : decode cL_isFair 73 = .ok (.istore 6, 2) := by decide +kernel
theorem dL_isFair_75 : decode cL_isFair 75 = .ok (.aload_n 1, 1) := by decide +kernel
theorem dL_isFair_76 : decode cL_isFair 76 = .ok (.bipush 10, 2) := by decide +kernel
theorem dL_isFair_78 : decode cL_isFair 78 = .ok (.iload 4, 2) := by decide +kernel
theorem dL_isFair_80 : decode cL_isFair 80 = .ok (.imul, 1) := by decide +kernel
theorem dL_isFair_81 : decode cL_isFair 81 = .ok (.iconst 2, 1) := by decide +kernel
theorem dL_isFair_82 : decode cL_isFair 82 = .ok (.iadd, 1) := by decide +kernel
theorem dL_isFair_83 : decode cL_isFair 83 = .ok (.iaload, 1) := by decide +kernel
theorem dL_isFair_84 : decode cL_isFair 84 = .ok (.istore 7, 2) := by decide +kernel
theorem dL_isFair_86 : decode cL_isFair 86 = .ok (.iconst (-1), 1) := by decide +kernel
theorem dL_isFair_87 : decode cL_isFair 87 = .ok (.istore 8, 2) := by decide +kernel
theorem dL_isFair_89 : decode cL_isFair 89 = .ok (.iconst 0, 1) := by decide +kernel
theorem dL_isFair_90 : decode cL_isFair 90 = .ok (.istore 9, 2) := by decide +kernel
theorem dL_isFair_92 : decode cL_isFair 92 = .ok (.sipush 5300, 3) := by decide +kernel
theorem dL_isFair_95 : decode cL_isFair 95 = .ok (.istore 10, 2) := by decide +kernel
theorem dL_isFair_97 : decode cL_isFair 97 = .ok (.iload 10, 2) := by decide +kernel
theorem dL_isFair_99 : decode cL_isFair 99 = .ok (.sipush 4700, 3) := by decide +kernel
theorem dL_isFair_102 : decode cL_isFair 102 = .ok (.if_icmp .lt 89, 3) := by decide +kernel
theorem dL_isFair_105 : decode cL_isFair 105 = .ok (.aload_n 1, 1) := by decide +kernel
theorem dL_isFair_106 : decode cL_isFair 106 = .ok (.bipush 10, 2) := by decide +kernel
theorem dL_isFair_108 : decode cL_isFair 108 = .ok (.iload 4, 2) := by decide +kernel
theorem dL_isFair_110 : decode cL_isFair 110 = .ok (.imul, 1) := by decide +kernel
theorem dL_isFair_111 : decode cL_isFair 111 = .ok (.iconst 2, 1) := by decide +kernel
theorem dL_isFair_112 : decode cL_isFair 112 = .ok (.iadd, 1) := by decide +kernel
theorem dL_isFair_113 : decode cL_isFair 113 = .ok (.iload 10, 2) := by decide +kernel
theorem dL_isFair_115 : decode cL_isFair 115 = .ok (.iastore, 1) := by decide +kernel
theorem dL_isFair_116 : decode cL_isFair 116 = .ok (.aload_n 1, 1) := by decide +kernel
theorem dL_isFair_117 : decode cL_isFair 117 = .ok (.aload_n 2, 1) := by decide +kernel
theorem dL_isFair_118 : decode cL_isFair 118 = .ok (.aload_n 3, 1) := by decide +kernel
theorem dL_isFair_119 : decode cL_isFair 119 = .ok (.invokestatic 33, 3) := by decide +kernel
theorem dL_isFair_122 : decode cL_isFair 122 = .ok (.iload 8, 2) := by decide +kernel
theorem dL_isFair_124 : decode cL_isFair 124 = .ok (.ifCond .lt 18, 3) := by decide +kernel
theorem dL_isFair_127 : decode cL_isFair 127 = .ok (.aload_n 3, 1) := by decide +kernel
theorem dL_isFair_128 : decode cL_isFair 128 = .ok (.iload 4, 2) := by decide +kernel
theorem dL_isFair_130 : decode cL_isFair 130 = .ok (.iaload, 1) := by decide +kernel
theorem dL_isFair_131 : decode cL_isFair 131 = .ok (.iload 6, 2) := by decide +kernel
theorem dL_isFair_133 : decode cL_isFair 133 = .ok (.isub, 1) := by decide +kernel
theorem dL_isFair_134 : decode cL_isFair 134 = .ok (.invokestatic 26, 3) := by decide +kernel
theorem dL_isFair_137 : decode cL_isFair 137 = .ok (.iload 9, 2) := by decide +kernel
theorem dL_isFair_139 : decode cL_isFair 139 = .ok (.if_icmp .gt 7, 3) := by decide +kernel
theorem dL_isFair_142 : decode cL_isFair 142 = .ok (.iconst 1, 1) := by decide +kernel
theorem dL_isFair_143 : decode cL_isFair 143 = .ok (.goto 4, 3) := by decide +kernel
theorem dL_isFair_146 : decode cL_isFair 146 = .ok (.iconst 0, 1) := by decide +kernel
theorem dL_isFair_147 : decode cL_isFair 147 = .ok (.istore 11, 2) := by decide +kernel
theorem dL_isFair_149 : decode cL_isFair 149 = .ok (.iload 11, 2) := by decide +kernel
theorem dL_isFair_151 : decode cL_isFair 151 = .ok (.ifCond .eq 8, 3) := by decide +kernel
theorem dL_isFair_154 : decode cL_isFair 154 = .ok (.iload 10, 2) := by decide +kernel
theorem dL_isFair_156 : decode cL_isFair 156 = .ok (.goto 5, 3) := by decide +kernel
theorem dL_isFair_159 : decode cL_isFair 159 = .ok (.iload 8, 2) := by decide +kernel
theorem dL_isFair_161 : decode cL_isFair 161 = .ok (.istore 8, 2) := by decide +kernel
theorem dL_isFair_163 : decode cL_isFair 163 = .ok (.iload 11, 2) := by decide +kernel
theorem dL_isFair_165 : decode cL_isFair 165 = .ok (.ifCond .eq 16, 3) := by decide +kernel
theorem dL_isFair_168 : decode cL_isFair 168 = .ok (.aload_n 3, 1) := by decide +kernel
theorem dL_isFair_169 : decode cL_isFair 169 = .ok (.iload 4, 2) := by decide +kernel
theorem dL_isFair_171 : decode cL_isFair 171 = .ok (.iaload, 1) := by decide +kernel
theorem dL_isFair_172 : decode cL_isFair 172 = .ok (.iload 6, 2) := by decide +kernel
theorem dL_isFair_174 : decode cL_isFair 174 = .ok (.isub, 1) := by decide +kernel
theorem dL_isFair_175 : decode cL_isFair 175 = .ok (.invokestatic 26, 3) := by decide +kernel
theorem dL_isFair_178 : decode cL_isFair 178 = .ok (.goto 5, 3) := by decide +kernel
theorem dL_isFair_181 : decode cL_isFair 181 = .ok (.iload 9, 2) := by decide +kernel
theorem dL_isFair_183 : decode cL_isFair 183 = .ok (.istore 9, 2) := by decide +kernel
theorem dL_isFair_185 : decode cL_isFair 185 = .ok (.iinc 10 (-1), 3) := by decide +kernel
theorem dL_isFair_188 : decode cL_isFair 188 = .ok (.goto (-91), 3) := by decide +kernel
theorem dL_isFair_191 : decode cL_isFair 191 = .ok (.aload_n 1, 1) := by decide +kernel
theorem dL_isFair_192 : decode cL_isFair 192 = .ok (.bipush 10, 2) := by decide +kernel
theorem dL_isFair_194 : decode cL_isFair 194 = .ok (.iload 4, 2) := by decide +kernel
theorem dL_isFair_196 : decode cL_isFair 196 = .ok (.imul, 1) := by decide +kernel
theorem dL_isFair_197 : decode cL_isFair 197 = .ok (.iconst 2, 1) := by decide +kernel
theorem dL_isFair_198 : decode cL_isFair 198 = .ok (.iadd, 1) := by decide +kernel
theorem dL_isFair_199 : decode cL_isFair 199 = .ok (.iload 7, 2) := by decide +kernel
theorem dL_isFair_201 : decode cL_isFair 201 = .ok (.iastore, 1) := by decide +kernel
theorem dL_isFair_202 : decode cL_isFair 202 = .ok (.iload 5, 2) := by decide +kernel
theorem dL_isFair_204 : decode cL_isFair 204 = .ok (.iload 8, 2) := by decide +kernel
theorem dL_isFair_206 : decode cL_isFair 206 = .ok (.if_icmp .ne 7, 3) := by decide +kernel
theorem dL_isFair_209 : decode cL_isFair 209 = .ok (.iconst 1, 1) := by decide +kernel
theorem dL_isFair_210 : decode cL_isFair 210 = .ok (.goto 4, 3) := by decide +kernel
theorem dL_isFair_213 : decode cL_isFair 213 = .ok (.iconst 0, 1) := by decide +kernel
theorem dL_isFair_214 : decode cL_isFair 214 = .ok (.ireturn, 1) := by decide +kernel
set_option maxRecDepth 100000 in
theorem ggL_switches_L_rests : GoodIn wsL_switches wsL_rests := goodIn_r _ [4] rfl (by decide +kernel)
set_option maxRecDepth 100000 in
theorem gL_switches_L_rests : GoodIn wsL_switches (va_wsS RL 41 yL_rests wsL_rests) := goodIn_app (goodIn_r _ [1, 2, 3] rfl (by decide +kernel)) ggL_switches_L_rests
set_option maxRecDepth 100000 in
theorem ggL_switches_X5_run : GoodIn wsL_switches wsX5_run := goodIn_ca (goodIn_ca (goodIn_r _ [9, 10, 11, 12, 13, 14, 15, 16, 8, 17, 18, 19, 20, 21, 22, 23, 24, 25, 26, 27, 28, 29, 30, 31, 32, 33, 34, 35, 36, 37, 38, 39, 40, 41, 42, 43, 44, 45, 46, 47, 48, 49, 50, 51, 52, 53, 54, 55, 56, 57, 58, 59, 60, 61, 62, 63, 64, 65, 66, 67, 68, 69, 70, 71, 72, 73, 74, 75, 76, 77, 78, 79, 80, 81, 82, 83, 84, 85, 214, 215, 216, 217, 218, 219, 220, 221, 222, 223, 224, 225, 226, 227, 228, 229, 230, 231, 232, 233, 234, 235, 236, 237, 238, 239] rfl (by decide +kernel)) (goodIn_sub (fun _ h => List.mem_cons_of_mem _ (List.mem_append_left _ (List.mem_append_left _ (List.mem_append_right _ h)))) (by decide +kernel))) (goodIn_sub (fun _ h => List.mem_cons_of_mem _ (List.mem_append_left _ (List.mem_append_right _ h))) (by decide +kernel))
set_option maxRecDepth 100000 in
theorem gL_switches_X5_run : GoodIn wsL_switches (wsV RL 96 RX5 yX5_run wsX5_run) := goodIn_app (goodIn_r _ [5, 6, 7, 8] rfl (by decide +kernel)) ggL_switches_X5_run
set_option maxRecDepth 100000 in
theorem ggL_switches_X5_diesel : GoodIn wsL_switches wsX5_diesel := goodIn_ca (goodIn_ca (goodIn_r _ [89, 15, 16, 8, 17, 18, 19, 20, 21, 22, 90, 91, 92, 93, 94, 95, 96, 97, 98, 12, 13, 99, 100, 101, 102, 103, 104, 105, 106, 107, 108, 109, 84, 85, 110, 111, 112, 43, 113, 114, 115, 116, 117, 45, 118, 119, 120, 121, 122, 46, 123, 124, 125, 126, 127, 128, 129, 130, 131, 26, 132, 57, 55, 56, 54, 133, 134, 135, 136, 137, 138, 139, 140, 141, 142, 143, 144, 145, 146, 147, 148, 58, 149, 150, 151, 152, 153, 154, 155, 83, 156, 157, 158, 159, 47, 160, 161, 214, 215, 216, 217, 218, 219, 220, 221, 222, 223, 224, 225, 226, 227, 228, 229, 230, 231, 232, 233, 234, 237, 238, 239] rfl (by decide +kernel)) (goodIn_sub (fun _ h => List.mem_cons_of_mem _ (List.mem_append_left _ (List.mem_append_right _ h))) (by decide +kernel))) (goodIn_sub (fun _ h => List.mem_cons_of_mem _ (List.mem_append_right _ h)) (by decide +kernel))
set_option maxRecDepth 100000 in
theorem gL_switches_X5_diesel : GoodIn wsL_switches (wsV RL 49 RX5 yX5_diesel wsX5_diesel) := goodIn_app (goodIn_r _ [86, 87, 88, 8] rfl (by decide +kernel)) ggL_switches_X5_diesel
set_option maxRecDepth 100000 in
theorem ggL_switches_L_opens : GoodIn wsL_switches wsL_opens := goodIn_r _ [164, 1, 2, 3, 4] rfl (by decide +kernel)
set_option maxRecDepth 100000 in
theorem gL_switches_L_opens : GoodIn wsL_switches (va_wsS RL 37 yL_opens wsL_opens) := goodIn_app (goodIn_r _ [162, 163, 3] rfl (by decide +kernel)) ggL_switches_L_opens
set_option maxRecDepth 100000 in
theorem ggL_switches_X5_open : GoodIn wsL_switches wsX5_open := goodIn_ca (goodIn_ca (goodIn_r _ [168, 10, 11, 12, 13, 103, 14, 15, 16, 8, 17, 18, 19, 20, 21, 22, 29, 30, 31, 32, 33, 34, 35, 36, 37, 38, 39, 40, 41, 42, 43, 44, 45, 46, 47, 48, 49, 50, 51, 52, 26, 53, 54, 55, 56, 28, 57, 58, 59, 60, 61, 62, 63, 64, 65, 66, 67, 68, 69, 70, 169, 170, 171, 172, 75, 76, 77, 78, 110, 111, 112, 113, 114, 115, 116, 117, 118, 119, 120, 121, 122, 123, 124, 125, 126, 127, 128, 129, 130, 131, 132, 214, 215, 216, 217, 218, 219, 220, 221, 222, 223, 224, 225, 226, 227, 228, 229, 230, 231, 232, 233, 234, 235, 236, 237, 238, 239] rfl (by decide +kernel)) (goodIn_sub (fun _ h => List.mem_cons_of_mem _ (List.mem_append_left _ (List.mem_append_left _ (List.mem_append_right _ h)))) (by decide +kernel))) (goodIn_sub (fun _ h => List.mem_cons_of_mem _ (List.mem_append_left _ (List.mem_append_right _ h))) (by decide +kernel))
set_option maxRecDepth 100000 in
theorem gL_switches_X5_open : GoodIn wsL_switches (wsV RL 99 RX5 yX5_open wsX5_open) := goodIn_app (goodIn_r _ [165, 166, 167, 8] rfl (by decide +kernel)) ggL_switches_X5_open
set_option maxRecDepth 100000 in
theorem ggL_switches_L_frequency : GoodIn wsL_switches wsL_frequency := goodIn_r _ [175, 176, 177, 3, 178, 179, 180, 181, 182, 183, 184] rfl (by decide +kernel)
set_option maxRecDepth 100000 in
theorem gL_switches_L_frequency : GoodIn wsL_switches (va_wsS RL 23 yL_frequency wsL_frequency) := goodIn_app (goodIn_r _ [173, 174, 3] rfl (by decide +kernel)) ggL_switches_L_frequency
set_option maxRecDepth 100000 in
theorem ggL_switches_L_why : GoodIn wsL_switches wsL_why := goodIn_r _ [187, 173, 174, 3, 175, 176, 177, 178, 179, 180, 181, 182, 183, 184, 188, 189, 190, 191, 192, 193] rfl (by decide +kernel)
set_option maxRecDepth 100000 in
theorem gL_switches_L_why : GoodIn wsL_switches (va_wsS RL 53 yL_why wsL_why) := goodIn_app (goodIn_r _ [185, 186, 3] rfl (by decide +kernel)) ggL_switches_L_why
set_option maxRecDepth 100000 in
theorem ggL_switches_X5_close : GoodIn wsL_switches wsX5_close := goodIn_ca (goodIn_ca (goodIn_r _ [197, 10, 11, 12, 14, 13, 15, 16, 8, 17, 18, 19, 20, 21, 22, 152, 153, 154, 43, 155, 45, 83, 118, 156, 157, 158, 139, 159, 47, 114, 115, 116, 117, 160, 111, 112, 113, 119, 120, 121, 122, 46, 123, 124, 125, 126, 127, 128, 129, 130, 131, 26, 132, 57, 55, 56, 54, 161, 146, 147, 148, 58, 149, 150, 151, 29, 30, 31, 32, 33, 34, 35, 36, 37, 38, 39, 40, 41, 42, 44, 48, 49, 50, 51, 52, 53, 28, 59, 60, 61, 62, 63, 64, 65, 66, 67, 68, 69, 70, 198, 199, 200, 201, 75, 76, 77, 78, 110, 214, 215, 216, 217, 218, 219, 220, 221, 222, 223, 224, 225, 226, 227, 228, 229, 230, 231, 232, 233, 234, 237, 238, 239, 235, 236] rfl (by decide +kernel)) (goodIn_sub (fun _ h => List.mem_cons_of_mem _ (List.mem_append_left _ (List.mem_append_left _ (List.mem_append_right _ h)))) (by decide +kernel))) (goodIn_sub (fun _ h => List.mem_cons_of_mem _ (List.mem_append_left _ (List.mem_append_right _ h))) (by decide +kernel))
set_option maxRecDepth 100000 in
theorem gL_switches_X5_close : GoodIn wsL_switches (wsV RL 102 RX5 yX5_close wsX5_close) := goodIn_app (goodIn_r _ [194, 195, 196, 8] rfl (by decide +kernel)) ggL_switches_X5_close
set_option maxRecDepth 100000 in
theorem ggL_switches_X5_halt : GoodIn wsL_switches wsX5_halt := goodIn_ca (goodIn_ca (goodIn_r _ [205, 10, 11, 12, 13, 14, 15, 16, 8, 17, 18, 19, 20, 21, 22, 206, 207, 208, 26, 209, 28, 57, 29, 30, 31, 32, 33, 34, 35, 36, 37, 38, 39, 40, 41, 42, 43, 44, 45, 46, 47, 48, 49, 50, 51, 52, 53, 54, 55, 56, 58, 59, 60, 61, 62, 63, 64, 65, 66, 67, 68, 69, 70, 210, 211, 212, 213, 75, 76, 77, 78, 79, 80, 81, 82, 83, 84, 85, 214, 215, 216, 217, 218, 219, 220, 221, 222, 223, 224, 225, 226, 227, 228, 229, 230, 231, 232, 233, 234, 235, 236, 237, 238, 239] rfl (by decide +kernel)) (goodIn_sub (fun _ h => List.mem_cons_of_mem _ (List.mem_append_left _ (List.mem_append_left _ (List.mem_append_right _ h)))) (by decide +kernel))) (goodIn_sub (fun _ h => List.mem_cons_of_mem _ (List.mem_append_left _ (List.mem_append_right _ h))) (by decide +kernel))
set_option maxRecDepth 100000 in
theorem gL_switches_X5_halt : GoodIn wsL_switches (wsV RL 105 RX5 yX5_halt wsX5_halt) := goodIn_app (goodIn_r _ [202, 203, 204, 8] rfl (by decide +kernel)) ggL_switches_X5_halt
theorem dL_switches_0 : decode cL_switches 0 = .ok (.bipush 10, 2) := by decide +kernel
theorem dL_switches_2 : decode cL_switches 2 = .ok (.iload 4, 2) := by decide +kernel
theorem dL_switches_4 : decode cL_switches 4 = .ok (.imul, 1) := by decide +kernel
theorem dL_switches_5 : decode cL_switches 5 = .ok (.istore 6, 2) := by decide +kernel
theorem dL_switches_7 : decode cL_switches 7 = .ok (.aload_n 1, 1) := by decide +kernel
theorem dL_switches_8 : decode cL_switches 8 = .ok (.iload 6, 2) := by decide +kernel
theorem dL_switches_10 : decode cL_switches 10 = .ok (.iconst 3, 1) := by decide +kernel
theorem dL_switches_11 : decode cL_switches 11 = .ok (.iadd, 1) := by decide +kernel
theorem dL_switches_12 : decode cL_switches 12 = .ok (.iaload, 1) := by decide +kernel
theorem dL_switches_13 : decode cL_switches 13 = .ok (.ifCond .ne 44, 3) := by decide +kernel
theorem dL_switches_16 : decode cL_switches 16 = .ok (.aload_n 1, 1) := by decide +kernel
theorem dL_switches_17 : decode cL_switches 17 = .ok (.iload 6, 2) := by decide +kernel
theorem dL_switches_19 : decode cL_switches 19 = .ok (.iconst 3, 1) := by decide +kernel
theorem dL_switches_20 : decode cL_switches 20 = .ok (.iadd, 1) := by decide +kernel
theorem dL_switches_21 : decode cL_switches 21 = .ok (.iconst 1, 1) := by decide +kernel
theorem dL_switches_22 : decode cL_switches 22 = .ok (.iastore, 1) := by decide +kernel
theorem dL_switches_23 : decode cL_switches 23 = .ok (.aload_n 1, 1) := by decide +kernel
theorem dL_switches_24 : decode cL_switches 24 = .ok (.iload 4, 2) := by decide +kernel
theorem dL_switches_26 : decode cL_switches 26 = .ok (.invokestatic 41, 3) := by decide +kernel
theorem dL_switches_29 : decode cL_switches 29 = .ok (.aload_n 0, 1) := by decide +kernel
theorem dL_switches_30 : decode cL_switches 30 = .ok (.iload 4, 2) := by decide +kernel
theorem dL_switches_32 : decode cL_switches 32 = .ok (.invokevirtual 96, 3) := by decide +kernel
theorem dL_switches_35 : decode cL_switches 35 = .ok (.aload_n 1, 1) := by decide +kernel
theorem dL_switches_36 : decode cL_switches 36 = .ok (.iconst 3, 1) := by decide +kernel
theorem dL_switches_37 : decode cL_switches 37 = .ok (.iaload, 1) := by decide +kernel
theorem dL_switches_38 : decode cL_switches 38 = .ok (.aload_n 1, 1) := by decide +kernel
theorem dL_switches_39 : decode cL_switches 39 = .ok (.bipush 13, 2) := by decide +kernel
theorem dL_switches_41 : decode cL_switches 41 = .ok (.iaload, 1) := by decide +kernel
theorem dL_switches_42 : decode cL_switches 42 = .ok (.iadd, 1) := by decide +kernel
theorem dL_switches_43 : decode cL_switches 43 = .ok (.aload_n 1, 1) := by decide +kernel
theorem dL_switches_44 : decode cL_switches 44 = .ok (.bipush 23, 2) := by decide +kernel
theorem dL_switches_46 : decode cL_switches 46 = .ok (.iaload, 1) := by decide +kernel
theorem dL_switches_47 : decode cL_switches 47 = .ok (.iadd, 1) := by decide +kernel
theorem dL_switches_48 : decode cL_switches 48 = .ok (.if_icmp .ne 7, 3) := by decide +kernel
theorem dL_switches_51 : decode cL_switches 51 = .ok (.iconst 1, 1) := by decide +kernel
theorem dL_switches_52 : decode cL_switches 52 = .ok (.goto 4, 3) := by decide +kernel
theorem dL_switches_55 : decode cL_switches 55 = .ok (.iconst 0, 1) := by decide +kernel
theorem dL_switches_56 : decode cL_switches 56 = .ok (.ireturn, 1) := by decide +kernel
theorem dL_switches_57 : decode cL_switches 57 = .ok (.aload_n 1, 1) := by decide +kernel
theorem dL_switches_58 : decode cL_switches 58 = .ok (.iload 6, 2) := by decide +kernel
theorem dL_switches_60 : decode cL_switches 60 = .ok (.iconst 4, 1) := by decide +kernel
theorem dL_switches_61 : decode cL_switches 61 = .ok (.iadd, 1) := by decide +kernel
theorem dL_switches_62 : decode cL_switches 62 = .ok (.iaload, 1) := by decide +kernel
theorem dL_switches_63 : decode cL_switches 63 = .ok (.iconst 1, 1) := by decide +kernel
theorem dL_switches_64 : decode cL_switches 64 = .ok (.if_icmp .ne 26, 3) := by decide +kernel
theorem dL_switches_67 : decode cL_switches 67 = .ok (.iload 5, 2) := by decide +kernel
theorem dL_switches_69 : decode cL_switches 69 = .ok (.ifCond .le 21, 3) := by decide +kernel
theorem dL_switches_72 : decode cL_switches 72 = .ok (.aload_n 0, 1) := by decide +kernel
theorem dL_switches_73 : decode cL_switches 73 = .ok (.iload 4, 2) := by decide +kernel
theorem dL_switches_75 : decode cL_switches 75 = .ok (.bipush 12, 2) := by decide +kernel
theorem dL_switches_77 : decode cL_switches 77 = .ok (.invokevirtual 49, 3) := by decide +kernel
theorem dL_switches_80 : decode cL_switches 80 = .ok (.iconst 2, 1) := by decide +kernel
theorem dL_switches_81 : decode cL_switches 81 = .ok (.if_icmp .ne 7, 3) := by decide +kernel
theorem dL_switches_84 : decode cL_switches 84 = .ok (.iconst 1, 1) := by decide +kernel
theorem dL_switches_85 : decode cL_switches 85 = .ok (.goto 4, 3) := by decide +kernel
theorem dL_switches_88 : decode cL_switches 88 = .ok (.iconst 0, 1) := by decide +kernel
theorem dL_switches_89 : decode cL_switches 89 = .ok (.ireturn, 1) := by decide +kernel
theorem dL_switches_90 : decode cL_switches 90 = .ok (.aload_n 1, 1) := by decide +kernel
theorem dL_switches_91 : decode cL_switches 91 = .ok (.iload 6, 2) := by decide +kernel
theorem dL_switches_93 : decode cL_switches 93 = .ok (.iconst 4, 1) := by decide +kernel
theorem dL_switches_94 : decode cL_switches 94 = .ok (.iadd, 1) := by decide +kernel
theorem dL_switches_95 : decode cL_switches 95 = .ok (.iaload, 1) := by decide +kernel
theorem dL_switches_96 : decode cL_switches 96 = .ok (.iconst 1, 1) := by decide +kernel
theorem dL_switches_97 : decode cL_switches 97 = .ok (.if_icmp .ne 29, 3) := by decide +kernel
theorem dL_switches_100 : decode cL_switches 100 = .ok (.aload_n 1, 1) := by decide +kernel
theorem dL_switches_101 : decode cL_switches 101 = .ok (.iload 4, 2) := by decide +kernel
theorem dL_switches_103 : decode cL_switches 103 = .ok (.invokestatic 37, 3) := by decide +kernel
theorem dL_switches_106 : decode cL_switches 106 = .ok (.aload_n 0, 1) := by decide +kernel
theorem dL_switches_107 : decode cL_switches 107 = .ok (.iload 4, 2) := by decide +kernel
theorem dL_switches_109 : decode cL_switches 109 = .ok (.invokevirtual 99, 3) := by decide +kernel
theorem dL_switches_112 : decode cL_switches 112 = .ok (.aload_n 1, 1) := by decide +kernel
theorem dL_switches_113 : decode cL_switches 113 = .ok (.aload_n 2, 1) := by decide +kernel
theorem dL_switches_114 : decode cL_switches 114 = .ok (.invokestatic 23, 3) := by decide +kernel
theorem dL_switches_117 : decode cL_switches 117 = .ok (.if_icmp .ne 7, 3) := by decide +kernel
theorem dL_switches_120 : decode cL_switches 120 = .ok (.iconst 1, 1) := by decide +kernel
theorem dL_switches_121 : decode cL_switches 121 = .ok (.goto 4, 3) := by decide +kernel
theorem dL_switches_124 : decode cL_switches 124 = .ok (.iconst 0, 1) := by decide +kernel
theorem dL_switches_125 : decode cL_switches 125 = .ok (.ireturn, 1) := by decide +kernel
theorem dL_switches_126 : decode cL_switches 126 = .ok (.aload_n 1, 1) := by decide +kernel
theorem dL_switches_127 : decode cL_switches 127 = .ok (.aload_n 2, 1) := by decide +kernel
theorem dL_switches_128 : decode cL_switches 128 = .ok (.aload_n 3, 1) := by decide +kernel
theorem dL_switches_129 : decode cL_switches 129 = .ok (.iload 4, 2) := by decide +kernel
theorem dL_switches_131 : decode cL_switches 131 = .ok (.invokestatic 53, 3) := by decide +kernel
theorem dL_switches_134 : decode cL_switches 134 = .ok (.ifCond .ne 36, 3) := by decide +kernel
theorem dL_switches_137 : decode cL_switches 137 = .ok (.aload_n 1, 1) := by decide +kernel
theorem dL_switches_138 : decode cL_switches 138 = .ok (.iload 6, 2) := by decide +kernel
theorem dL_switches_140 : decode cL_switches 140 = .ok (.iconst 4, 1) := by decide +kernel
theorem dL_switches_141 : decode cL_switches 141 = .ok (.iadd, 1) := by decide +kernel
theorem dL_switches_142 : decode cL_switches 142 = .ok (.iconst 1, 1) := by decide +kernel
theorem dL_switches_143 : decode cL_switches 143 = .ok (.iastore, 1) := by decide +kernel
theorem dL_switches_144 : decode cL_switches 144 = .ok (.aload_n 1, 1) := by decide +kernel
theorem dL_switches_145 : decode cL_switches 145 = .ok (.iload 4, 2) := by decide +kernel
theorem dL_switches_147 : decode cL_switches 147 = .ok (.invokestatic 41, 3) := by decide +kernel
theorem dL_switches_150 : decode cL_switches 150 = .ok (.aload_n 0, 1) := by decide +kernel
theorem dL_switches_151 : decode cL_switches 151 = .ok (.iload 4, 2) := by decide +kernel
theorem dL_switches_153 : decode cL_switches 153 = .ok (.invokevirtual 102, 3) := by decide +kernel
theorem dL_switches_156 : decode cL_switches 156 = .ok (.aload_n 1, 1) := by decide +kernel
theorem dL_switches_157 : decode cL_switches 157 = .ok (.aload_n 2, 1) := by decide +kernel
theorem dL_switches_158 : decode cL_switches 158 = .ok (.invokestatic 23, 3) := by decide +kernel
theorem dL_switches_161 : decode cL_switches 161 = .ok (.if_icmp .ne 7, 3) := by decide +kernel
theorem dL_switches_164 : decode cL_switches 164 = .ok (.iconst 1, 1) := by decide +kernel
theorem dL_switches_165 : decode cL_switches 165 = .ok (.goto 4, 3) := by decide +kernel
theorem dL_switches_168 : decode cL_switches 168 = .ok (.iconst 0, 1) := by decide +kernel
theorem dL_switches_169 : decode cL_switches 169 = .ok (.ireturn, 1) := by decide +kernel
theorem dL_switches_170 : decode cL_switches 170 = .ok (.iload 5, 2) := by decide +kernel
theorem dL_switches_172 : decode cL_switches 172 = .ok (.iconst 1, 1) := by decide +kernel
theorem dL_switches_173 : decode cL_switches 173 = .ok (.if_icmp .le 21, 3) := by decide +kernel
theorem dL_switches_176 : decode cL_switches 176 = .ok (.aload_n 0, 1) := by decide +kernel
theorem dL_switches_177 : decode cL_switches 177 = .ok (.iload 4, 2) := by decide +kernel
theorem dL_switches_179 : decode cL_switches 179 = .ok (.bipush 12, 2) := by decide +kernel
theorem dL_switches_181 : decode cL_switches 181 = .ok (.invokevirtual 49, 3) := by decide +kernel
theorem dL_switches_184 : decode cL_switches 184 = .ok (.iconst 2, 1) := by decide +kernel
theorem dL_switches_185 : decode cL_switches 185 = .ok (.if_icmp .le 7, 3) := by decide +kernel
theorem dL_switches_188 : decode cL_switches 188 = .ok (.iconst 1, 1) := by decide +kernel
theorem dL_switches_189 : decode cL_switches 189 = .ok (.goto 4, 3) := by decide +kernel
theorem dL_switches_192 : decode cL_switches 192 = .ok (.iconst 0, 1) := by decide +kernel
theorem dL_switches_193 : decode cL_switches 193 = .ok (.ireturn, 1) := by decide +kernel
theorem dL_switches_194 : decode cL_switches 194 = .ok (.aload_n 1, 1) := by decide +kernel
theorem dL_switches_195 : decode cL_switches 195 = .ok (.iload 6, 2) := by decide +kernel
theorem dL_switches_197 : decode cL_switches 197 = .ok (.iconst 3, 1) := by decide +kernel
theorem dL_switches_198 : decode cL_switches 198 = .ok (.iadd, 1) := by decide +kernel
theorem dL_switches_199 : decode cL_switches 199 = .ok (.iconst 0, 1) := by decide +kernel
theorem dL_switches_200 : decode cL_switches 200 = .ok (.iastore, 1) := by decide +kernel
theorem dL_switches_201 : decode cL_switches 201 = .ok (.aload_n 1, 1) := by decide +kernel
theorem dL_switches_202 : decode cL_switches 202 = .ok (.iload 4, 2) := by decide +kernel
theorem dL_switches_204 : decode cL_switches 204 = .ok (.invokestatic 41, 3) := by decide +kernel
theorem dL_switches_207 : decode cL_switches 207 = .ok (.aload_n 0, 1) := by decide +kernel
theorem dL_switches_208 : decode cL_switches 208 = .ok (.iload 4, 2) := by decide +kernel
theorem dL_switches_210 : decode cL_switches 210 = .ok (.invokevirtual 105, 3) := by decide +kernel
theorem dL_switches_213 : decode cL_switches 213 = .ok (.aload_n 1, 1) := by decide +kernel
theorem dL_switches_214 : decode cL_switches 214 = .ok (.iconst 3, 1) := by decide +kernel
theorem dL_switches_215 : decode cL_switches 215 = .ok (.iaload, 1) := by decide +kernel
theorem dL_switches_216 : decode cL_switches 216 = .ok (.aload_n 1, 1) := by decide +kernel
theorem dL_switches_217 : decode cL_switches 217 = .ok (.bipush 13, 2) := by decide +kernel
theorem dL_switches_219 : decode cL_switches 219 = .ok (.iaload, 1) := by decide +kernel
theorem dL_switches_220 : decode cL_switches 220 = .ok (.iadd, 1) := by decide +kernel
theorem dL_switches_221 : decode cL_switches 221 = .ok (.aload_n 1, 1) := by decide +kernel
theorem dL_switches_222 : decode cL_switches 222 = .ok (.bipush 23, 2) := by decide +kernel
theorem dL_switches_224 : decode cL_switches 224 = .ok (.iaload, 1) := by decide +kernel
theorem dL_switches_225 : decode cL_switches 225 = .ok (.iadd, 1) := by decide +kernel
theorem dL_switches_226 : decode cL_switches 226 = .ok (.if_icmp .ne 7, 3) := by decide +kernel
theorem dL_switches_229 : decode cL_switches 229 = .ok (.iconst 1, 1) := by decide +kernel
theorem dL_switches_230 : decode cL_switches 230 = .ok (.goto 4, 3) := by decide +kernel
theorem dL_switches_233 : decode cL_switches 233 = .ok (.iconst 0, 1) := by decide +kernel
theorem dL_switches_234 : decode cL_switches 234 = .ok (.ireturn, 1) := by decide +kernel
set_option maxRecDepth 100000 in
theorem ggL_acts_L_low : GoodIn wsL_acts wsL_low := goodIn_r _ [4, 5] rfl (by decide +kernel)
set_option maxRecDepth 100000 in
theorem gL_acts_L_low : GoodIn wsL_acts (va_wsS RL 71 yL_low wsL_low) := goodIn_app (goodIn_r _ [1, 2, 3] rfl (by decide +kernel)) ggL_acts_L_low
set_option maxRecDepth 100000 in
theorem ggL_acts_X5_diesel : GoodIn wsL_acts wsX5_diesel := goodIn_ca (goodIn_ca (goodIn_r _ [10, 11, 12, 9, 13, 14, 15, 16, 17, 18, 19, 20, 21, 22, 23, 24, 25, 26, 27, 28, 29, 30, 31, 32, 33, 34, 35, 36, 37, 38, 39, 40, 41, 42, 43, 44, 45, 46, 47, 48, 49, 50, 51, 52, 53, 54, 55, 56, 57, 58, 59, 60, 61, 62, 63, 64, 65, 66, 67, 68, 69, 70, 71, 72, 73, 74, 75, 76, 77, 78, 79, 80, 81, 82, 83, 84, 85, 86, 87, 88, 89, 90, 91, 92, 93, 94, 95, 96, 97, 98, 99, 100, 101, 102, 103, 104, 105, 300, 301, 302, 303, 304, 305, 306, 307, 308, 309, 310, 311, 312, 313, 314, 315, 316, 317, 318, 319, 320, 321, 322, 323] rfl (by decide +kernel)) (goodIn_sub (fun _ h => List.mem_cons_of_mem _ (List.mem_append_left _ (List.mem_append_left _ (List.mem_append_right _ h)))) (by decide +kernel))) (goodIn_sub (fun _ h => List.mem_cons_of_mem _ (List.mem_append_left _ (List.mem_append_right _ h))) (by decide +kernel))
set_option maxRecDepth 100000 in
theorem gL_acts_X5_diesel : GoodIn wsL_acts (wsV RL 49 RX5 yX5_diesel wsX5_diesel) := goodIn_app (goodIn_r _ [6, 7, 8, 9] rfl (by decide +kernel)) ggL_acts_X5_diesel
set_option maxRecDepth 100000 in
theorem ggL_acts_X5_build : GoodIn wsL_acts wsX5_build := goodIn_ca (goodIn_ca (goodIn_ca (goodIn_r _ [109, 110, 111, 28, 29, 33, 112, 30, 31, 11, 12, 9, 13, 14, 15, 16, 17, 18, 19, 20, 21, 22, 23, 113, 114, 115, 116, 117, 118, 119, 120, 121, 122, 123, 124, 125, 126, 46, 127, 52, 58, 103, 128, 129, 130, 131, 132, 68, 133, 73, 71, 72, 134, 70, 90, 135, 136, 137, 138, 139, 140, 141, 142, 143, 144, 145, 146, 300, 301, 302, 303, 304, 305, 306, 307, 308, 309, 310, 311, 312, 313, 314, 315, 316, 317, 318, 319, 320, 324, 325, 321, 322, 323] rfl (by decide +kernel)) (goodIn_sub (fun _ h => List.mem_cons_of_mem _ (List.mem_append_right _ h)) (by decide +kernel))) (goodIn_sub (fun _ h => List.mem_cons_of_mem _ (List.mem_append_left _ (List.mem_append_left _ (List.mem_append_right _ h)))) (by decide +kernel))) (goodIn_sub (fun _ h => List.mem_cons_of_mem _ (List.mem_append_left _ (List.mem_append_right _ h))) (by decide +kernel))
set_option maxRecDepth 100000 in
theorem gL_acts_X5_build : GoodIn wsL_acts (wsV RL 108 RX5 yX5_build wsX5_build) := goodIn_app (goodIn_r _ [106, 107, 108, 9] rfl (by decide +kernel)) ggL_acts_X5_build
set_option maxRecDepth 100000 in
theorem ggL_acts_L_frequency : GoodIn wsL_acts wsL_frequency := goodIn_r _ [149, 150, 151, 3, 152, 153, 154, 155, 156, 157, 158] rfl (by decide +kernel)
set_option maxRecDepth 100000 in
theorem gL_acts_L_frequency : GoodIn wsL_acts (va_wsS RL 23 yL_frequency wsL_frequency) := goodIn_app (goodIn_r _ [147, 148, 3] rfl (by decide +kernel)) ggL_acts_L_frequency
set_option maxRecDepth 100000 in
theorem ggL_acts_X5_speed : GoodIn wsL_acts wsX5_speed := goodIn_ca (goodIn_ca (goodIn_r _ [162, 112, 28, 29, 32, 11, 12, 9, 13, 14, 15, 16, 17, 18, 19, 20, 21, 22, 23, 113, 114, 115, 116, 117, 118, 119, 120, 121, 122, 123, 124, 125, 126, 46, 127, 52, 58, 103, 128, 129, 130, 131, 132, 68, 133, 73, 71, 72, 134, 70, 90, 135, 136, 137, 138, 139, 140, 141, 142, 143, 144, 145, 146, 300, 301, 302, 303, 304, 305, 306, 307, 308, 309, 310, 311, 312, 313, 314, 315, 316, 317, 318, 319, 320, 324, 325, 321, 322, 323] rfl (by decide +kernel)) (goodIn_sub (fun _ h => List.mem_cons_of_mem _ (List.mem_append_left _ (List.mem_append_left _ (List.mem_append_right _ h)))) (by decide +kernel))) (goodIn_sub (fun _ h => List.mem_cons_of_mem _ (List.mem_append_left _ (List.mem_append_right _ h))) (by decide +kernel))
set_option maxRecDepth 100000 in
theorem gL_acts_X5_speed : GoodIn wsL_acts (wsV RL 111 RX5 yX5_speed wsX5_speed) := goodIn_app (goodIn_r _ [159, 160, 161, 9] rfl (by decide +kernel)) ggL_acts_X5_speed
set_option maxRecDepth 100000 in
theorem ggL_acts_X5_load : GoodIn wsL_acts wsX5_load := goodIn_ca (goodIn_ca (goodIn_r _ [166, 112, 28, 167, 168, 169, 170, 9, 171, 14, 15, 172, 173, 174, 19, 20, 21, 22, 23, 113, 114, 115, 116, 117, 118, 119, 120, 121, 122, 123, 124, 125, 126, 46, 127, 52, 58, 103, 128, 129, 130, 131, 132, 68, 133, 73, 71, 72, 134, 70, 90, 135, 136, 137, 138, 139, 140, 141, 142, 143, 144, 145, 146, 300, 301, 302, 303, 304, 305, 306, 307, 308, 309, 310, 321, 322, 323, 324, 325, 311, 312, 313, 314, 315, 316, 317, 318, 319, 320] rfl (by decide +kernel)) (goodIn_sub (fun _ h => List.mem_cons_of_mem _ (List.mem_append_left _ (List.mem_append_left _ (List.mem_append_right _ h)))) (by decide +kernel))) (goodIn_sub (fun _ h => List.mem_cons_of_mem _ (List.mem_append_left _ (List.mem_append_right _ h))) (by decide +kernel))
set_option maxRecDepth 100000 in
theorem gL_acts_X5_load : GoodIn wsL_acts (wsV RL 114 RX5 yX5_load wsX5_load) := goodIn_app (goodIn_r _ [163, 164, 165, 9] rfl (by decide +kernel)) ggL_acts_X5_load
set_option maxRecDepth 100000 in
theorem ggL_acts_X5_feeder : GoodIn wsL_acts wsX5_feeder := goodIn_ca (goodIn_ca (goodIn_r _ [178, 112, 28, 167, 179, 169, 170, 9, 171, 14, 15, 172, 173, 174, 19, 20, 21, 22, 23, 113, 114, 115, 116, 117, 118, 119, 120, 121, 122, 123, 124, 125, 126, 46, 127, 52, 58, 103, 128, 129, 130, 131, 132, 68, 133, 73, 71, 72, 134, 70, 90, 135, 136, 137, 138, 139, 140, 141, 142, 143, 144, 145, 146, 40, 41, 42, 300, 301, 302, 303, 304, 305, 306, 307, 308, 309, 310, 321, 322, 323, 324, 325, 311, 312, 313, 314, 315, 316, 317, 318, 319, 320] rfl (by decide +kernel)) (goodIn_sub (fun _ h => List.mem_cons_of_mem _ (List.mem_append_left _ (List.mem_append_left _ (List.mem_append_right _ h)))) (by decide +kernel))) (goodIn_sub (fun _ h => List.mem_cons_of_mem _ (List.mem_append_left _ (List.mem_append_right _ h))) (by decide +kernel))
set_option maxRecDepth 100000 in
theorem gL_acts_X5_feeder : GoodIn wsL_acts (wsV RL 116 RX5 yX5_feeder wsX5_feeder) := goodIn_app (goodIn_r _ [175, 176, 177, 9] rfl (by decide +kernel)) ggL_acts_X5_feeder
set_option maxRecDepth 100000 in
theorem ggL_acts_X5_set : GoodIn wsL_acts wsX5_set := goodIn_ca (goodIn_ca (goodIn_r _ [183, 184, 185, 112, 28, 186, 187, 188, 9, 189, 14, 15, 19, 20, 21, 22, 23, 113, 114, 115, 116, 117, 118, 119, 120, 121, 122, 123, 124, 125, 126, 46, 127, 52, 58, 103, 128, 129, 130, 131, 132, 68, 133, 73, 71, 72, 134, 70, 90, 135, 136, 137, 138, 139, 140, 141, 142, 143, 144, 145, 146, 300, 301, 302, 303, 304, 305, 306, 307, 308, 309, 310, 324, 325, 311, 312, 313, 314, 315, 316, 317, 318, 319, 320, 321, 322, 323] rfl (by decide +kernel)) (goodIn_sub (fun _ h => List.mem_cons_of_mem _ (List.mem_append_left _ (List.mem_append_left _ (List.mem_append_right _ h)))) (by decide +kernel))) (goodIn_sub (fun _ h => List.mem_cons_of_mem _ (List.mem_append_left _ (List.mem_append_right _ h))) (by decide +kernel))
set_option maxRecDepth 100000 in
theorem gL_acts_X5_set : GoodIn wsL_acts (wsV RL 119 RX5 yX5_set wsX5_set) := goodIn_app (goodIn_r _ [180, 181, 182, 9] rfl (by decide +kernel)) ggL_acts_X5_set
set_option maxRecDepth 100000 in
theorem ggL_acts_L_switches : GoodIn wsL_acts wsL_switches := goodIn_ca (goodIn_ca (goodIn_ca (goodIn_r _ [192, 193, 194, 3, 195, 196, 197, 198, 9, 199, 110, 111, 28, 29, 112, 11, 12, 13, 14, 15, 16, 17, 18, 200, 201, 202, 68, 203, 134, 113, 114, 115, 116, 117, 118, 119, 120, 121, 122, 123, 124, 125, 126, 46, 127, 52, 58, 103, 128, 129, 130, 131, 132, 133, 73, 71, 72, 70, 90, 135, 136, 137, 138, 139, 140, 141, 142, 143, 144, 145, 146, 204, 205, 206, 207, 208, 209, 210, 211, 212, 213, 214, 215, 98, 41, 42, 6, 7, 8, 10, 19, 20, 21, 22, 23, 24, 25, 26, 27, 30, 31, 32, 33, 34, 35, 36, 37, 38, 39, 40, 43, 44, 45, 47, 48, 49, 50, 51, 53, 54, 55, 56, 57, 59, 60, 61, 62, 63, 64, 65, 66, 67, 69, 74, 75, 76, 77, 78, 79, 80, 81, 82, 83, 84, 85, 86, 87, 88, 89, 91, 92, 93, 94, 95, 96, 97, 99, 100, 101, 102, 104, 105, 216, 217, 218, 219, 220, 221, 222, 223, 224, 225, 226, 147, 148, 149, 150, 151, 152, 153, 154, 155, 156, 157, 158, 227, 228, 229, 230, 231, 232, 233, 234, 235, 236, 237, 238, 239, 240, 241, 242, 243, 244, 245, 246, 247, 248, 249, 250, 251, 252, 253, 254, 255, 300, 301, 302, 303, 304, 305, 306, 307, 308, 309, 310, 311, 312, 313, 314, 315, 316, 317, 318, 319, 320, 324, 325, 321, 322, 323] rfl (by decide +kernel)) (goodIn_sub (fun _ h => List.mem_cons_of_mem _ (List.mem_append_right _ h)) (by decide +kernel))) (goodIn_sub (fun _ h => List.mem_cons_of_mem _ (List.mem_append_left _ (List.mem_append_left _ (List.mem_append_right _ h)))) (by decide +kernel))) (goodIn_sub (fun _ h => List.mem_cons_of_mem _ (List.mem_append_left _ (List.mem_append_right _ h))) (by decide +kernel))
set_option maxRecDepth 100000 in
theorem gL_acts_L_switches : GoodIn wsL_acts (va_wsS RL 122 yL_switches wsL_switches) := goodIn_app (goodIn_r _ [190, 191, 3] rfl (by decide +kernel)) ggL_acts_L_switches
set_option maxRecDepth 100000 in
theorem ggL_acts_L_ticks : GoodIn wsL_acts wsL_ticks := goodIn_r _ [258, 147, 148, 3, 149, 150, 151, 152, 153, 154, 155, 156, 157, 158, 259, 260, 261, 216, 217, 218, 193, 194, 195] rfl (by decide +kernel)
set_option maxRecDepth 100000 in
theorem gL_acts_L_ticks : GoodIn wsL_acts (va_wsS RL 82 yL_ticks wsL_ticks) := goodIn_app (goodIn_r _ [256, 257, 3] rfl (by decide +kernel)) ggL_acts_L_ticks
set_option maxRecDepth 100000 in
theorem ggL_acts_X5_pass : GoodIn wsL_acts wsX5_pass := goodIn_ca (goodIn_r _ [265, 112, 28, 19, 20, 9, 21, 22, 23, 113, 114, 115, 116, 117, 118, 119, 120, 121, 122, 123, 124, 125, 126, 46, 127, 52, 58, 103, 128, 129, 130, 131, 132, 68, 133, 73, 71, 72, 134, 70, 90, 135, 136, 137, 138, 139, 140, 141, 142, 143, 144, 145, 146, 266, 267, 268, 269, 270, 271, 272, 273, 104, 44, 45, 47, 48, 49, 50, 51, 53, 54, 55, 56, 57, 59, 60, 61, 62, 63, 64, 65, 66, 67, 69, 274, 275, 276, 277, 78, 79, 80, 81, 278, 75, 76, 77, 82, 83, 84, 85, 279, 280, 281, 282, 283, 284, 285, 286, 287, 288, 289, 290, 291, 292, 293, 294, 295, 296, 297, 298, 299, 224, 225, 226, 208, 209, 210, 211, 300, 301, 302, 303, 304, 305, 324, 325, 306, 307, 308, 309, 310, 311, 312, 313, 314, 315, 316, 317, 318, 319, 320, 321, 322, 323] rfl (by decide +kernel)) (goodIn_sub (fun _ h => List.mem_cons_of_mem _ (List.mem_append_left _ (List.mem_append_right _ h))) (by decide +kernel))
set_option maxRecDepth 100000 in
theorem gL_acts_X5_pass : GoodIn wsL_acts (wsV RL 126 RX5 yX5_pass wsX5_pass) := goodIn_app (goodIn_r _ [262, 263, 264, 9] rfl (by decide +kernel)) ggL_acts_X5_pass
theorem dL_acts_0 : decode cL_acts 0 = .ok (.iload 6, 2) := by decide +kernel
theorem dL_acts_2 : decode cL_acts 2 = .ok (.iconst 3, 1) := by decide +kernel
theorem dL_acts_3 : decode cL_acts 3 = .ok (.invokestatic 71, 3) := by decide +kernel
theorem dL_acts_6 : decode cL_acts 6 = .ok (.istore 7, 2) := by decide +kernel
theorem dL_acts_8 : decode cL_acts 8 = .ok (.bipush 10, 2) := by decide +kernel
theorem dL_acts_10 : decode cL_acts 10 = .ok (.iload 7, 2) := by decide +kernel
theorem dL_acts_12 : decode cL_acts 12 = .ok (.imul, 1) := by decide +kernel
theorem dL_acts_13 : decode cL_acts 13 = .ok (.istore 8, 2) := by decide +kernel
theorem dL_acts_15 : decode cL_acts 15 = .ok (.iload 5, 2) := by decide +kernel
theorem dL_acts_17 : decode cL_acts 17 = .ok (.tableswitch 524 0 11 #[63, 160, 160, 285, 285, 357, 418, 505, 505, 505, 505, 505], 63) := by decide +kernel
theorem dL_acts_80 : decode cL_acts 80 = .ok (.aload_n 1, 1) := by decide +kernel
theorem dL_acts_81 : decode cL_acts 81 = .ok (.iload 8, 2) := by decide +kernel
theorem dL_acts_83 : decode cL_acts 83 = .ok (.iconst 3, 1) := by decide +kernel
theorem dL_acts_84 : decode cL_acts 84 = .ok (.iadd, 1) := by decide +kernel
theorem dL_acts_85 : decode cL_acts 85 = .ok (.iaload, 1) := by decide +kernel
theorem dL_acts_86 : decode cL_acts 86 = .ok (.iconst 1, 1) := by decide +kernel
theorem dL_acts_87 : decode cL_acts 87 = .ok (.if_icmp .ne 20, 3) := by decide +kernel
theorem dL_acts_90 : decode cL_acts 90 = .ok (.aload_n 0, 1) := by decide +kernel
theorem dL_acts_91 : decode cL_acts 91 = .ok (.iload 7, 2) := by decide +kernel
theorem dL_acts_93 : decode cL_acts 93 = .ok (.iconst 3, 1) := by decide +kernel
theorem dL_acts_94 : decode cL_acts 94 = .ok (.invokevirtual 49, 3) := by decide +kernel
theorem dL_acts_97 : decode cL_acts 97 = .ok (.iconst 1, 1) := by decide +kernel
theorem dL_acts_98 : decode cL_acts 98 = .ok (.if_icmp .ne 7, 3) := by decide +kernel
theorem dL_acts_101 : decode cL_acts 101 = .ok (.iconst 1, 1) := by decide +kernel
theorem dL_acts_102 : decode cL_acts 102 = .ok (.goto 4, 3) := by decide +kernel
theorem dL_acts_105 : decode cL_acts 105 = .ok (.iconst 0, 1) := by decide +kernel
theorem dL_acts_106 : decode cL_acts 106 = .ok (.ireturn, 1) := by decide +kernel
theorem dL_acts_107 : decode cL_acts 107 = .ok (.aload_n 1, 1) := by decide +kernel
theorem dL_acts_108 : decode cL_acts 108 = .ok (.iload 8, 2) := by decide +kernel
theorem dL_acts_110 : decode cL_acts 110 = .ok (.iaload, 1) := by decide +kernel
theorem dL_acts_111 : decode cL_acts 111 = .ok (.istore 9, 2) := by decide +kernel
theorem dL_acts_113 : decode cL_acts 113 = .ok (.aload_n 1, 1) := by decide +kernel
theorem dL_acts_114 : decode cL_acts 114 = .ok (.iload 8, 2) := by decide +kernel
theorem dL_acts_116 : decode cL_acts 116 = .ok (.bipush 100, 2) := by decide +kernel
theorem dL_acts_118 : decode cL_acts 118 = .ok (.iload 6, 2) := by decide +kernel
theorem dL_acts_120 : decode cL_acts 120 = .ok (.iconst 2, 1) := by decide +kernel
theorem dL_acts_121 : decode cL_acts 121 = .ok (.ishr, 1) := by decide +kernel
theorem dL_acts_122 : decode cL_acts 122 = .ok (.sipush 401, 3) := by decide +kernel
theorem dL_acts_125 : decode cL_acts 125 = .ok (.invokestatic 71, 3) := by decide +kernel
theorem dL_acts_128 : decode cL_acts 128 = .ok (.iadd, 1) := by decide +kernel
theorem dL_acts_129 : decode cL_acts 129 = .ok (.iastore, 1) := by decide +kernel
theorem dL_acts_130 : decode cL_acts 130 = .ok (.aload_n 1, 1) := by decide +kernel
theorem dL_acts_131 : decode cL_acts 131 = .ok (.iload 8, 2) := by decide +kernel
theorem dL_acts_133 : decode cL_acts 133 = .ok (.iconst 1, 1) := by decide +kernel
theorem dL_acts_134 : decode cL_acts 134 = .ok (.iadd, 1) := by decide +kernel
theorem dL_acts_135 : decode cL_acts 135 = .ok (.bipush 100, 2) := by decide +kernel
theorem dL_acts_137 : decode cL_acts 137 = .ok (.iload 6, 2) := by decide +kernel
theorem dL_acts_139 : decode cL_acts 139 = .ok (.bipush 11, 2) := by decide +kernel
theorem dL_acts_141 : decode cL_acts 141 = .ok (.ishr, 1) := by decide +kernel
theorem dL_acts_142 : decode cL_acts 142 = .ok (.sipush 301, 3) := by decide +kernel
theorem dL_acts_145 : decode cL_acts 145 = .ok (.invokestatic 71, 3) := by decide +kernel
theorem dL_acts_148 : decode cL_acts 148 = .ok (.iadd, 1) := by decide +kernel
theorem dL_acts_149 : decode cL_acts 149 = .ok (.iastore, 1) := by decide +kernel
theorem dL_acts_150 : decode cL_acts 150 = .ok (.aload_n 0, 1) := by decide +kernel
theorem dL_acts_151 : decode cL_acts 151 = .ok (.iload 7, 2) := by decide +kernel
theorem dL_acts_153 : decode cL_acts 153 = .ok (.aload_n 1, 1) := by decide +kernel
theorem dL_acts_154 : decode cL_acts 154 = .ok (.iload 8, 2) := by decide +kernel
theorem dL_acts_156 : decode cL_acts 156 = .ok (.iaload, 1) := by decide +kernel
theorem dL_acts_157 : decode cL_acts 157 = .ok (.aload_n 1, 1) := by decide +kernel
theorem dL_acts_158 : decode cL_acts 158 = .ok (.iload 8, 2) := by decide +kernel
theorem dL_acts_160 : decode cL_acts 160 = .ok (.iconst 1, 1) := by decide +kernel
theorem dL_acts_161 : decode cL_acts 161 = .ok (.iadd, 1) := by decide +kernel
theorem dL_acts_162 : decode cL_acts 162 = .ok (.iaload, 1) := by decide +kernel
theorem dL_acts_163 : decode cL_acts 163 = .ok (.invokevirtual 108, 3) := by decide +kernel
theorem dL_acts_166 : decode cL_acts 166 = .ok (.iload 9, 2) := by decide +kernel
theorem dL_acts_168 : decode cL_acts 168 = .ok (.if_icmp .ne 7, 3) := by decide +kernel
theorem dL_acts_171 : decode cL_acts 171 = .ok (.iconst 1, 1) := by decide +kernel
theorem dL_acts_172 : decode cL_acts 172 = .ok (.goto 4, 3) := by decide +kernel
theorem dL_acts_175 : decode cL_acts 175 = .ok (.iconst 0, 1) := by decide +kernel
theorem dL_acts_176 : decode cL_acts 176 = .ok (.ireturn, 1) := by decide +kernel
theorem dL_acts_177 : decode cL_acts 177 = .ok (.aload_n 1, 1) := by decide +kernel
theorem dL_acts_178 : decode cL_acts 178 = .ok (.iload 8, 2) := by decide +kernel
theorem dL_acts_180 : decode cL_acts 180 = .ok (.iconst 2, 1) := by decide +kernel
theorem dL_acts_181 : decode cL_acts 181 = .ok (.iadd, 1) := by decide +kernel
theorem dL_acts_182 : decode cL_acts 182 = .ok (.iaload, 1) := by decide +kernel
theorem dL_acts_183 : decode cL_acts 183 = .ok (.istore 10, 2) := by decide +kernel
theorem dL_acts_185 : decode cL_acts 185 = .ok (.aload_n 1, 1) := by decide +kernel
theorem dL_acts_186 : decode cL_acts 186 = .ok (.aload_n 2, 1) := by decide +kernel
theorem dL_acts_187 : decode cL_acts 187 = .ok (.invokestatic 23, 3) := by decide +kernel
theorem dL_acts_190 : decode cL_acts 190 = .ok (.istore 11, 2) := by decide +kernel
theorem dL_acts_192 : decode cL_acts 192 = .ok (.aload_n 1, 1) := by decide +kernel
theorem dL_acts_193 : decode cL_acts 193 = .ok (.iload 8, 2) := by decide +kernel
theorem dL_acts_195 : decode cL_acts 195 = .ok (.iconst 2, 1) := by decide +kernel
theorem dL_acts_196 : decode cL_acts 196 = .ok (.iadd, 1) := by decide +kernel
theorem dL_acts_197 : decode cL_acts 197 = .ok (.iload 6, 2) := by decide +kernel
theorem dL_acts_199 : decode cL_acts 199 = .ok (.iconst 2, 1) := by decide +kernel
theorem dL_acts_200 : decode cL_acts 200 = .ok (.ishr, 1) := by decide +kernel
theorem dL_acts_201 : decode cL_acts 201 = .ok (.iconst 3, 1) := by decide +kernel
theorem dL_acts_202 : decode cL_acts 202 = .ok (.invokestatic 71, 3) := by decide +kernel
theorem dL_acts_205 : decode cL_acts 205 = .ok (.ifCond .ne 20, 3) := by decide +kernel
theorem dL_acts_208 : decode cL_acts 208 = .ok (.sipush 4700, 3) := by decide +kernel
theorem dL_acts_211 : decode cL_acts 211 = .ok (.iload 6, 2) := by decide +kernel
theorem dL_acts_213 : decode cL_acts 213 = .ok (.iconst 4, 1) := by decide +kernel
theorem dL_acts_214 : decode cL_acts 214 = .ok (.ishr, 1) := by decide +kernel
theorem dL_acts_215 : decode cL_acts 215 = .ok (.sipush 601, 3) := by decide +kernel
theorem dL_acts_218 : decode cL_acts 218 = .ok (.invokestatic 71, 3) := by decide +kernel
theorem dL_acts_221 : decode cL_acts 221 = .ok (.iadd, 1) := by decide +kernel
theorem dL_acts_222 : decode cL_acts 222 = .ok (.goto 56, 3) := by decide +kernel
theorem dL_acts_225 : decode cL_acts 225 = .ok (.iload 11, 2) := by decide +kernel
theorem dL_acts_227 : decode cL_acts 227 = .ok (.ifCond .le 38, 3) := by decide +kernel
theorem dL_acts_230 : decode cL_acts 230 = .ok (.iload 6, 2) := by decide +kernel
theorem dL_acts_232 : decode cL_acts 232 = .ok (.iconst 2, 1) := by decide +kernel
theorem dL_acts_233 : decode cL_acts 233 = .ok (.ishr, 1) := by decide +kernel
theorem dL_acts_234 : decode cL_acts 234 = .ok (.iconst 3, 1) := by decide +kernel
theorem dL_acts_235 : decode cL_acts 235 = .ok (.invokestatic 71, 3) := by decide +kernel
theorem dL_acts_238 : decode cL_acts 238 = .ok (.iconst 1, 1) := by decide +kernel
theorem dL_acts_239 : decode cL_acts 239 = .ok (.if_icmp .ne 26, 3) := by decide +kernel
theorem dL_acts_242 : decode cL_acts 242 = .ok (.iload 11, 2) := by decide +kernel
theorem dL_acts_244 : decode cL_acts 244 = .ok (.sipush 5290, 3) := by decide +kernel
theorem dL_acts_247 : decode cL_acts 247 = .ok (.if_icmp .ge 18, 3) := by decide +kernel
theorem dL_acts_250 : decode cL_acts 250 = .ok (.iload 11, 2) := by decide +kernel
theorem dL_acts_252 : decode cL_acts 252 = .ok (.iload 6, 2) := by decide +kernel
theorem dL_acts_254 : decode cL_acts 254 = .ok (.iconst 4, 1) := by decide +kernel
theorem dL_acts_255 : decode cL_acts 255 = .ok (.ishr, 1) := by decide +kernel
theorem dL_acts_256 : decode cL_acts 256 = .ok (.bipush 9, 2) := by decide +kernel
theorem dL_acts_258 : decode cL_acts 258 = .ok (.invokestatic 71, 3) := by decide +kernel
theorem dL_acts_261 : decode cL_acts 261 = .ok (.iadd, 1) := by decide +kernel
theorem dL_acts_262 : decode cL_acts 262 = .ok (.goto 16, 3) := by decide +kernel
theorem dL_acts_265 : decode cL_acts 265 = .ok (.sipush 4950, 3) := by decide +kernel
theorem dL_acts_268 : decode cL_acts 268 = .ok (.iload 6, 2) := by decide +kernel
theorem dL_acts_270 : decode cL_acts 270 = .ok (.iconst 4, 1) := by decide +kernel
theorem dL_acts_271 : decode cL_acts 271 = .ok (.ishr, 1) := by decide +kernel
theorem dL_acts_272 : decode cL_acts 272 = .ok (.bipush 100, 2) := by decide +kernel
theorem dL_acts_274 : decode cL_acts 274 = .ok (.invokestatic 71, 3) := by decide +kernel
theorem dL_acts_277 : decode cL_acts 277 = .ok (.iadd, 1) := by decide +kernel
theorem dL_acts_278 : decode cL_acts 278 = .ok (.iastore, 1) := by decide +kernel
theorem dL_acts_279 : decode cL_acts 279 = .ok (.aload_n 0, 1) := by decide +kernel
theorem dL_acts_280 : decode cL_acts 280 = .ok (.iload 7, 2) := by decide +kernel
theorem dL_acts_282 : decode cL_acts 282 = .ok (.aload_n 1, 1) := by decide +kernel
theorem dL_acts_283 : decode cL_acts 283 = .ok (.iload 8, 2) := by decide +kernel
theorem dL_acts_285 : decode cL_acts 285 = .ok (.iconst 2, 1) := by decide +kernel
theorem dL_acts_286 : decode cL_acts 286 = .ok (.iadd, 1) := by decide +kernel
theorem dL_acts_287 : decode cL_acts 287 = .ok (.iaload, 1) := by decide +kernel
theorem dL_acts_288 : decode cL_acts 288 = .ok (.invokevirtual 111, 3) := by decide +kernel
theorem dL_acts_291 : decode cL_acts 291 = .ok (.iload 10, 2) := by decide +kernel
theorem dL_acts_293 : decode cL_acts 293 = .ok (.if_icmp .ne 7, 3) := by decide +kernel
theorem dL_acts_296 : decode cL_acts 296 = .ok (.iconst 1, 1) := by decide +kernel
theorem dL_acts_297 : decode cL_acts 297 = .ok (.goto 4, 3) := by decide +kernel
theorem dL_acts_300 : decode cL_acts 300 = .ok (.iconst 0, 1) := by decide +kernel
theorem dL_acts_301 : decode cL_acts 301 = .ok (.ireturn, 1) := by decide +kernel
theorem dL_acts_302 : decode cL_acts 302 = .ok (.iload 6, 2) := by decide +kernel
theorem dL_acts_304 : decode cL_acts 304 = .ok (.iconst 4, 1) := by decide +kernel
theorem dL_acts_305 : decode cL_acts 305 = .ok (.invokestatic 71, 3) := by decide +kernel
theorem dL_acts_308 : decode cL_acts 308 = .ok (.istore 12, 2) := by decide +kernel
theorem dL_acts_310 : decode cL_acts 310 = .ok (.aload_n 2, 1) := by decide +kernel
theorem dL_acts_311 : decode cL_acts 311 = .ok (.iload 12, 2) := by decide +kernel
theorem dL_acts_313 : decode cL_acts 313 = .ok (.iaload, 1) := by decide +kernel
theorem dL_acts_314 : decode cL_acts 314 = .ok (.istore 13, 2) := by decide +kernel
theorem dL_acts_316 : decode cL_acts 316 = .ok (.aload_n 2, 1) := by decide +kernel
theorem dL_acts_317 : decode cL_acts 317 = .ok (.iload 12, 2) := by decide +kernel
theorem dL_acts_319 : decode cL_acts 319 = .ok (.iload 6, 2) := by decide +kernel
theorem dL_acts_321 : decode cL_acts 321 = .ok (.iconst 2, 1) := by decide +kernel
theorem dL_acts_322 : decode cL_acts 322 = .ok (.ishr, 1) := by decide +kernel
theorem dL_acts_323 : decode cL_acts 323 = .ok (.iconst 2, 1) := by decide +kernel
theorem dL_acts_324 : decode cL_acts 324 = .ok (.invokestatic 71, 3) := by decide +kernel
theorem dL_acts_327 : decode cL_acts 327 = .ok (.ifCond .ne 16, 3) := by decide +kernel
theorem dL_acts_330 : decode cL_acts 330 = .ok (.iload 6, 2) := by decide +kernel
theorem dL_acts_332 : decode cL_acts 332 = .ok (.iconst 3, 1) := by decide +kernel
theorem dL_acts_333 : decode cL_acts 333 = .ok (.ishr, 1) := by decide +kernel
theorem dL_acts_334 : decode cL_acts 334 = .ok (.sipush 301, 3) := by decide +kernel
theorem dL_acts_337 : decode cL_acts 337 = .ok (.invokestatic 71, 3) := by decide +kernel
theorem dL_acts_340 : decode cL_acts 340 = .ok (.goto 12, 3) := by decide +kernel
theorem dL_acts_343 : decode cL_acts 343 = .ok (.iload 6, 2) := by decide +kernel
theorem dL_acts_345 : decode cL_acts 345 = .ok (.iconst 3, 1) := by decide +kernel
theorem dL_acts_346 : decode cL_acts 346 = .ok (.ishr, 1) := by decide +kernel
theorem dL_acts_347 : decode cL_acts 347 = .ok (.bipush 120, 2) := by decide +kernel
theorem dL_acts_349 : decode cL_acts 349 = .ok (.invokestatic 71, 3) := by decide +kernel
theorem dL_acts_352 : decode cL_acts 352 = .ok (.iastore, 1) := by decide +kernel
theorem dL_acts_353 : decode cL_acts 353 = .ok (.aload_n 0, 1) := by decide +kernel
theorem dL_acts_354 : decode cL_acts 354 = .ok (.iload 12, 2) := by decide +kernel
theorem dL_acts_356 : decode cL_acts 356 = .ok (.aload_n 2, 1) := by decide +kernel
theorem dL_acts_357 : decode cL_acts 357 = .ok (.iload 12, 2) := by decide +kernel
theorem dL_acts_359 : decode cL_acts 359 = .ok (.iaload, 1) := by decide +kernel
theorem dL_acts_360 : decode cL_acts 360 = .ok (.invokevirtual 114, 3) := by decide +kernel
theorem dL_acts_363 : decode cL_acts 363 = .ok (.iload 13, 2) := by decide +kernel
theorem dL_acts_365 : decode cL_acts 365 = .ok (.if_icmp .ne 7, 3) := by decide +kernel
theorem dL_acts_368 : decode cL_acts 368 = .ok (.iconst 1, 1) := by decide +kernel
theorem dL_acts_369 : decode cL_acts 369 = .ok (.goto 4, 3) := by decide +kernel
theorem dL_acts_372 : decode cL_acts 372 = .ok (.iconst 0, 1) := by decide +kernel
theorem dL_acts_373 : decode cL_acts 373 = .ok (.ireturn, 1) := by decide +kernel
theorem dL_acts_374 : decode cL_acts 374 = .ok (.iload 6, 2) := by decide +kernel
theorem dL_acts_376 : decode cL_acts 376 = .ok (.iconst 4, 1) := by decide +kernel
theorem dL_acts_377 : decode cL_acts 377 = .ok (.invokestatic 71, 3) := by decide +kernel
theorem dL_acts_380 : decode cL_acts 380 = .ok (.istore 14, 2) := by decide +kernel
theorem dL_acts_382 : decode cL_acts 382 = .ok (.aload_n 2, 1) := by decide +kernel
theorem dL_acts_383 : decode cL_acts 383 = .ok (.iconst 4, 1) := by decide +kernel
theorem dL_acts_384 : decode cL_acts 384 = .ok (.iload 14, 2) := by decide +kernel
theorem dL_acts_386 : decode cL_acts 386 = .ok (.iadd, 1) := by decide +kernel
theorem dL_acts_387 : decode cL_acts 387 = .ok (.iaload, 1) := by decide +kernel
theorem dL_acts_388 : decode cL_acts 388 = .ok (.istore 15, 2) := by decide +kernel
theorem dL_acts_390 : decode cL_acts 390 = .ok (.aload_n 2, 1) := by decide +kernel
theorem dL_acts_391 : decode cL_acts 391 = .ok (.iconst 4, 1) := by decide +kernel
theorem dL_acts_392 : decode cL_acts 392 = .ok (.iload 14, 2) := by decide +kernel
theorem dL_acts_394 : decode cL_acts 394 = .ok (.iadd, 1) := by decide +kernel
theorem dL_acts_395 : decode cL_acts 395 = .ok (.iload 6, 2) := by decide +kernel
theorem dL_acts_397 : decode cL_acts 397 = .ok (.iconst 2, 1) := by decide +kernel
theorem dL_acts_398 : decode cL_acts 398 = .ok (.ishr, 1) := by decide +kernel
theorem dL_acts_399 : decode cL_acts 399 = .ok (.iconst 3, 1) := by decide +kernel
theorem dL_acts_400 : decode cL_acts 400 = .ok (.invokestatic 71, 3) := by decide +kernel
theorem dL_acts_403 : decode cL_acts 403 = .ok (.ifCond .le 7, 3) := by decide +kernel
theorem dL_acts_406 : decode cL_acts 406 = .ok (.iconst 1, 1) := by decide +kernel
theorem dL_acts_407 : decode cL_acts 407 = .ok (.goto 4, 3) := by decide +kernel
theorem dL_acts_410 : decode cL_acts 410 = .ok (.iconst 0, 1) := by decide +kernel
theorem dL_acts_411 : decode cL_acts 411 = .ok (.iastore, 1) := by decide +kernel
theorem dL_acts_412 : decode cL_acts 412 = .ok (.aload_n 0, 1) := by decide +kernel
theorem dL_acts_413 : decode cL_acts 413 = .ok (.iload 14, 2) := by decide +kernel
theorem dL_acts_415 : decode cL_acts 415 = .ok (.aload_n 2, 1) := by decide +kernel
theorem dL_acts_416 : decode cL_acts 416 = .ok (.iconst 4, 1) := by decide +kernel
theorem dL_acts_417 : decode cL_acts 417 = .ok (.iload 14, 2) := by decide +kernel
theorem dL_acts_419 : decode cL_acts 419 = .ok (.iadd, 1) := by decide +kernel
theorem dL_acts_420 : decode cL_acts 420 = .ok (.iaload, 1) := by decide +kernel
theorem dL_acts_421 : decode cL_acts 421 = .ok (.invokevirtual 116, 3) := by decide +kernel
theorem dL_acts_424 : decode cL_acts 424 = .ok (.iload 15, 2) := by decide +kernel
theorem dL_acts_426 : decode cL_acts 426 = .ok (.if_icmp .ne 7, 3) := by decide +kernel
theorem dL_acts_429 : decode cL_acts 429 = .ok (.iconst 1, 1) := by decide +kernel
theorem dL_acts_430 : decode cL_acts 430 = .ok (.goto 4, 3) := by decide +kernel
theorem dL_acts_433 : decode cL_acts 433 = .ok (.iconst 0, 1) := by decide +kernel
theorem dL_acts_434 : decode cL_acts 434 = .ok (.ireturn, 1) := by decide +kernel
theorem dL_acts_435 : decode cL_acts 435 = .ok (.iload 6, 2) := by decide +kernel
theorem dL_acts_437 : decode cL_acts 437 = .ok (.iconst 4, 1) := by decide +kernel
theorem dL_acts_438 : decode cL_acts 438 = .ok (.invokestatic 71, 3) := by decide +kernel
theorem dL_acts_441 : decode cL_acts 441 = .ok (.istore 16, 2) := by decide +kernel
theorem dL_acts_443 : decode cL_acts 443 = .ok (.aload_n 3, 1) := by decide +kernel
theorem dL_acts_444 : decode cL_acts 444 = .ok (.iload 16, 2) := by decide +kernel
theorem dL_acts_446 : decode cL_acts 446 = .ok (.iaload, 1) := by decide +kernel
theorem dL_acts_447 : decode cL_acts 447 = .ok (.istore 17, 2) := by decide +kernel
theorem dL_acts_449 : decode cL_acts 449 = .ok (.aload_n 3, 1) := by decide +kernel
theorem dL_acts_450 : decode cL_acts 450 = .ok (.iload 16, 2) := by decide +kernel
theorem dL_acts_452 : decode cL_acts 452 = .ok (.iload 16, 2) := by decide +kernel
theorem dL_acts_454 : decode cL_acts 454 = .ok (.iconst 2, 1) := by decide +kernel
theorem dL_acts_455 : decode cL_acts 455 = .ok (.if_icmp .ge 17, 3) := by decide +kernel
theorem dL_acts_458 : decode cL_acts 458 = .ok (.iconst 1, 1) := by decide +kernel
theorem dL_acts_459 : decode cL_acts 459 = .ok (.iload 6, 2) := by decide +kernel
theorem dL_acts_461 : decode cL_acts 461 = .ok (.iconst 2, 1) := by decide +kernel
theorem dL_acts_462 : decode cL_acts 462 = .ok (.ishr, 1) := by decide +kernel
theorem dL_acts_463 : decode cL_acts 463 = .ok (.bipush 9, 2) := by decide +kernel
theorem dL_acts_465 : decode cL_acts 465 = .ok (.invokestatic 71, 3) := by decide +kernel
theorem dL_acts_468 : decode cL_acts 468 = .ok (.iadd, 1) := by decide +kernel
theorem dL_acts_469 : decode cL_acts 469 = .ok (.goto 31, 3) := by decide +kernel
theorem dL_acts_472 : decode cL_acts 472 = .ok (.iload 16, 2) := by decide +kernel
theorem dL_acts_474 : decode cL_acts 474 = .ok (.iconst 2, 1) := by decide +kernel
theorem dL_acts_475 : decode cL_acts 475 = .ok (.if_icmp .ne 15, 3) := by decide +kernel
theorem dL_acts_478 : decode cL_acts 478 = .ok (.iload 6, 2) := by decide +kernel
theorem dL_acts_480 : decode cL_acts 480 = .ok (.iconst 2, 1) := by decide +kernel
theorem dL_acts_481 : decode cL_acts 481 = .ok (.ishr, 1) := by decide +kernel
theorem dL_acts_482 : decode cL_acts 482 = .ok (.bipush 51, 2) := by decide +kernel
theorem dL_acts_484 : decode cL_acts 484 = .ok (.invokestatic 71, 3) := by decide +kernel
theorem dL_acts_487 : decode cL_acts 487 = .ok (.goto 13, 3) := by decide +kernel
theorem dL_acts_490 : decode cL_acts 490 = .ok (.iload 6, 2) := by decide +kernel
theorem dL_acts_492 : decode cL_acts 492 = .ok (.iconst 2, 1) := by decide +kernel
theorem dL_acts_493 : decode cL_acts 493 = .ok (.ishr, 1) := by decide +kernel
theorem dL_acts_494 : decode cL_acts 494 = .ok (.sipush 201, 3) := by decide +kernel
theorem dL_acts_497 : decode cL_acts 497 = .ok (.invokestatic 71, 3) := by decide +kernel
theorem dL_acts_500 : decode cL_acts 500 = .ok (.iastore, 1) := by decide +kernel
theorem dL_acts_501 : decode cL_acts 501 = .ok (.aload_n 0, 1) := by decide +kernel
theorem dL_acts_502 : decode cL_acts 502 = .ok (.iload 16, 2) := by decide +kernel
theorem dL_acts_504 : decode cL_acts 504 = .ok (.aload_n 3, 1) := by decide +kernel
theorem dL_acts_505 : decode cL_acts 505 = .ok (.iload 16, 2) := by decide +kernel
theorem dL_acts_507 : decode cL_acts 507 = .ok (.iaload, 1) := by decide +kernel
theorem dL_acts_508 : decode cL_acts 508 = .ok (.invokevirtual 119, 3) := by decide +kernel
theorem dL_acts_511 : decode cL_acts 511 = .ok (.iload 17, 2) := by decide +kernel
theorem dL_acts_513 : decode cL_acts 513 = .ok (.if_icmp .ne 7, 3) := by decide +kernel
theorem dL_acts_516 : decode cL_acts 516 = .ok (.iconst 1, 1) := by decide +kernel
theorem dL_acts_517 : decode cL_acts 517 = .ok (.goto 4, 3) := by decide +kernel
theorem dL_acts_520 : decode cL_acts 520 = .ok (.iconst 0, 1) := by decide +kernel
theorem dL_acts_521 : decode cL_acts 521 = .ok (.ireturn, 1) := by decide +kernel
theorem dL_acts_522 : decode cL_acts 522 = .ok (.aload_n 0, 1) := by decide +kernel
theorem dL_acts_523 : decode cL_acts 523 = .ok (.aload_n 1, 1) := by decide +kernel
theorem dL_acts_524 : decode cL_acts 524 = .ok (.aload_n 2, 1) := by decide +kernel
theorem dL_acts_525 : decode cL_acts 525 = .ok (.aload_n 3, 1) := by decide +kernel
theorem dL_acts_526 : decode cL_acts 526 = .ok (.iload 7, 2) := by decide +kernel
theorem dL_acts_528 : decode cL_acts 528 = .ok (.iload 6, 2) := by decide +kernel
theorem dL_acts_530 : decode cL_acts 530 = .ok (.iconst 2, 1) := by decide +kernel
theorem dL_acts_531 : decode cL_acts 531 = .ok (.ishr, 1) := by decide +kernel
theorem dL_acts_532 : decode cL_acts 532 = .ok (.bipush 6, 2) := by decide +kernel
theorem dL_acts_534 : decode cL_acts 534 = .ok (.invokestatic 71, 3) := by decide +kernel
theorem dL_acts_537 : decode cL_acts 537 = .ok (.invokestatic 122, 3) := by decide +kernel
theorem dL_acts_540 : decode cL_acts 540 = .ok (.ireturn, 1) := by decide +kernel
theorem dL_acts_541 : decode cL_acts 541 = .ok (.iconst 1, 1) := by decide +kernel
theorem dL_acts_542 : decode cL_acts 542 = .ok (.iload 6, 2) := by decide +kernel
theorem dL_acts_544 : decode cL_acts 544 = .ok (.iload 6, 2) := by decide +kernel
theorem dL_acts_546 : decode cL_acts 546 = .ok (.bipush 8, 2) := by decide +kernel
theorem dL_acts_548 : decode cL_acts 548 = .ok (.ishr, 1) := by decide +kernel
theorem dL_acts_549 : decode cL_acts 549 = .ok (.iconst 3, 1) := by decide +kernel
theorem dL_acts_550 : decode cL_acts 550 = .ok (.invokestatic 71, 3) := by decide +kernel
theorem dL_acts_553 : decode cL_acts 553 = .ok (.ifCond .ne 8, 3) := by decide +kernel
theorem dL_acts_556 : decode cL_acts 556 = .ok (.bipush 60, 2) := by decide +kernel
theorem dL_acts_558 : decode cL_acts 558 = .ok (.goto 5, 3) := by decide +kernel
theorem dL_acts_561 : decode cL_acts 561 = .ok (.bipush 6, 2) := by decide +kernel
theorem dL_acts_563 : decode cL_acts 563 = .ok (.invokestatic 71, 3) := by decide +kernel
theorem dL_acts_566 : decode cL_acts 566 = .ok (.iadd, 1) := by decide +kernel
theorem dL_acts_567 : decode cL_acts 567 = .ok (.istore 18, 2) := by decide +kernel
theorem dL_acts_569 : decode cL_acts 569 = .ok (.iconst 0, 1) := by decide +kernel
theorem dL_acts_570 : decode cL_acts 570 = .ok (.istore 19, 2) := by decide +kernel
theorem dL_acts_572 : decode cL_acts 572 = .ok (.iconst 0, 1) := by decide +kernel
theorem dL_acts_573 : decode cL_acts 573 = .ok (.istore 20, 2) := by decide +kernel
theorem dL_acts_575 : decode cL_acts 575 = .ok (.iload 20, 2) := by decide +kernel
theorem dL_acts_577 : decode cL_acts 577 = .ok (.iload 18, 2) := by decide +kernel
theorem dL_acts_579 : decode cL_acts 579 = .ok (.if_icmp .ge 22, 3) := by decide +kernel
theorem dL_acts_582 : decode cL_acts 582 = .ok (.iload 19, 2) := by decide +kernel
theorem dL_acts_584 : decode cL_acts 584 = .ok (.aload_n 1, 1) := by decide +kernel
theorem dL_acts_585 : decode cL_acts 585 = .ok (.aload_n 2, 1) := by decide +kernel
theorem dL_acts_586 : decode cL_acts 586 = .ok (.aload_n 3, 1) := by decide +kernel
theorem dL_acts_587 : decode cL_acts 587 = .ok (.aload 4, 2) := by decide +kernel
theorem dL_acts_589 : decode cL_acts 589 = .ok (.invokestatic 82, 3) := by decide +kernel
theorem dL_acts_592 : decode cL_acts 592 = .ok (.iadd, 1) := by decide +kernel
theorem dL_acts_593 : decode cL_acts 593 = .ok (.istore 19, 2) := by decide +kernel
theorem dL_acts_595 : decode cL_acts 595 = .ok (.iinc 20 1, 3) := by decide +kernel
theorem dL_acts_598 : decode cL_acts 598 = .ok (.goto (-23), 3) := by decide +kernel
theorem dL_acts_601 : decode cL_acts 601 = .ok (.aload_n 0, 1) := by decide +kernel
theorem dL_acts_602 : decode cL_acts 602 = .ok (.iload 18, 2) := by decide +kernel
theorem dL_acts_604 : decode cL_acts 604 = .ok (.invokevirtual 126, 3) := by decide +kernel
theorem dL_acts_607 : decode cL_acts 607 = .ok (.iload 19, 2) := by decide +kernel
theorem dL_acts_609 : decode cL_acts 609 = .ok (.if_icmp .ne 7, 3) := by decide +kernel
theorem dL_acts_612 : decode cL_acts 612 = .ok (.iconst 1, 1) := by decide +kernel
theorem dL_acts_613 : decode cL_acts 613 = .ok (.goto 4, 3) := by decide +kernel
theorem dL_acts_616 : decode cL_acts 616 = .ok (.iconst 0, 1) := by decide +kernel
theorem dL_acts_617 : decode cL_acts 617 = .ok (.ireturn, 1) := by decide +kernel
