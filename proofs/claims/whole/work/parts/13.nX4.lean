theorem dX4_init_0 : decode cX4_init 0 = .ok (.aload_n 0, 1) := by decide +kernel
theorem dX4_init_1 : decode cX4_init 1 = .ok (.invokespecial 3, 3) := by decide +kernel
theorem dX4_init_4 : decode cX4_init 4 = .ok (.aload_n 0, 1) := by decide +kernel
theorem dX4_init_5 : decode cX4_init 5 = .ok (.bipush 60, 2) := by decide +kernel
theorem dX4_init_7 : decode cX4_init 7 = .ok (.newarray .int, 2) := by decide +kernel
theorem dX4_init_9 : decode cX4_init 9 = .ok (.putfield 9, 3) := by decide +kernel
theorem dX4_init_12 : decode cX4_init 12 = .ok (.return_, 1) := by decide +kernel
theorem dX4_isFull_0 : decode cX4_isFull 0 = .ok (.aload_n 0, 1) := by decide +kernel
theorem dX4_isFull_1 : decode cX4_isFull 1 = .ok (.getfield 15, 3) := by decide +kernel
theorem dX4_isFull_4 : decode cX4_isFull 4 = .ok (.aload_n 0, 1) := by decide +kernel
theorem dX4_isFull_5 : decode cX4_isFull 5 = .ok (.getfield 9, 3) := by decide +kernel
theorem dX4_isFull_8 : decode cX4_isFull 8 = .ok (.arraylength, 1) := by decide +kernel
theorem dX4_isFull_9 : decode cX4_isFull 9 = .ok (.if_icmp .lt 7, 3) := by decide +kernel
theorem dX4_isFull_12 : decode cX4_isFull 12 = .ok (.iconst 1, 1) := by decide +kernel
theorem dX4_isFull_13 : decode cX4_isFull 13 = .ok (.goto 4, 3) := by decide +kernel
theorem dX4_isFull_16 : decode cX4_isFull 16 = .ok (.iconst 0, 1) := by decide +kernel
theorem dX4_isFull_17 : decode cX4_isFull 17 = .ok (.ireturn, 1) := by decide +kernel
set_option maxRecDepth 100000 in
theorem ggX4_add_X4_isFull : GoodIn wsX4_add wsX4_isFull := goodIn_r _ [7, 2, 1, 8, 9] rfl (by decide +kernel)
set_option maxRecDepth 100000 in
theorem gX4_add_X4_isFull : GoodIn wsX4_add (wsV RX4 19 RX4 yX4_isFull wsX4_isFull) := goodIn_app (goodIn_r _ [3, 4, 5, 6] rfl (by decide +kernel)) ggX4_add_X4_isFull
theorem dX4_add_0 : decode cX4_add 0 = .ok (.aload_n 0, 1) := by decide +kernel
theorem dX4_add_1 : decode cX4_add 1 = .ok (.invokevirtual 19, 3) := by decide +kernel
theorem dX4_add_4 : decode cX4_add 4 = .ok (.ifCond .ne 23, 3) := by decide +kernel
theorem dX4_add_7 : decode cX4_add 7 = .ok (.aload_n 0, 1) := by decide +kernel
theorem dX4_add_8 : decode cX4_add 8 = .ok (.getfield 9, 3) := by decide +kernel
theorem dX4_add_11 : decode cX4_add 11 = .ok (.aload_n 0, 1) := by decide +kernel
theorem dX4_add_12 : decode cX4_add 12 = .ok (.getfield 15, 3) := by decide +kernel
theorem dX4_add_15 : decode cX4_add 15 = .ok (.iload_n 1, 1) := by decide +kernel
theorem dX4_add_16 : decode cX4_add 16 = .ok (.iastore, 1) := by decide +kernel
theorem dX4_add_17 : decode cX4_add 17 = .ok (.aload_n 0, 1) := by decide +kernel
theorem dX4_add_18 : decode cX4_add 18 = .ok (.dup, 1) := by decide +kernel
theorem dX4_add_19 : decode cX4_add 19 = .ok (.getfield 15, 3) := by decide +kernel
theorem dX4_add_22 : decode cX4_add 22 = .ok (.iconst 1, 1) := by decide +kernel
theorem dX4_add_23 : decode cX4_add 23 = .ok (.iadd, 1) := by decide +kernel
theorem dX4_add_24 : decode cX4_add 24 = .ok (.putfield 15, 3) := by decide +kernel
theorem dX4_add_27 : decode cX4_add 27 = .ok (.return_, 1) := by decide +kernel
theorem dX4_codeAt_0 : decode cX4_codeAt 0 = .ok (.iload_n 1, 1) := by decide +kernel
theorem dX4_codeAt_1 : decode cX4_codeAt 1 = .ok (.ifCond .lt 20, 3) := by decide +kernel
theorem dX4_codeAt_4 : decode cX4_codeAt 4 = .ok (.iload_n 1, 1) := by decide +kernel
theorem dX4_codeAt_5 : decode cX4_codeAt 5 = .ok (.aload_n 0, 1) := by decide +kernel
theorem dX4_codeAt_6 : decode cX4_codeAt 6 = .ok (.getfield 15, 3) := by decide +kernel
theorem dX4_codeAt_9 : decode cX4_codeAt 9 = .ok (.if_icmp .ge 12, 3) := by decide +kernel
theorem dX4_codeAt_12 : decode cX4_codeAt 12 = .ok (.aload_n 0, 1) := by decide +kernel
theorem dX4_codeAt_13 : decode cX4_codeAt 13 = .ok (.getfield 9, 3) := by decide +kernel
theorem dX4_codeAt_16 : decode cX4_codeAt 16 = .ok (.iload_n 1, 1) := by decide +kernel
theorem dX4_codeAt_17 : decode cX4_codeAt 17 = .ok (.iaload, 1) := by decide +kernel
theorem dX4_codeAt_18 : decode cX4_codeAt 18 = .ok (.goto 4, 3) := by decide +kernel
theorem dX4_codeAt_21 : decode cX4_codeAt 21 = .ok (.iconst 0, 1) := by decide +kernel
theorem dX4_codeAt_22 : decode cX4_codeAt 22 = .ok (.ireturn, 1) := by decide +kernel
set_option maxRecDepth 100000 in
theorem ggX4_firstWrong_X4_next : GoodIn wsX4_firstWrong wsX4_next := goodIn_r _ [6, 7, 8, 5, 9, 10, 11, 12] rfl (by decide +kernel)
set_option maxRecDepth 100000 in
theorem gX4_firstWrong_X4_next : GoodIn wsX4_firstWrong (va_wsS RX4 23 yX4_next wsX4_next) := goodIn_app (goodIn_r _ [3, 4, 5] rfl (by decide +kernel)) ggX4_firstWrong_X4_next
theorem dX4_firstWrong_0 : decode cX4_firstWrong 0 = .ok (.iconst 1, 1) := by decide +kernel
theorem dX4_firstWrong_1 : decode cX4_firstWrong 1 = .ok (.istore_n 1, 1) := by decide +kernel
theorem dX4_firstWrong_2 : decode cX4_firstWrong 2 = .ok (.iconst 0, 1) := by decide +kernel
theorem dX4_firstWrong_3 : decode cX4_firstWrong 3 = .ok (.istore_n 2, 1) := by decide +kernel
theorem dX4_firstWrong_4 : decode cX4_firstWrong 4 = .ok (.iload_n 2, 1) := by decide +kernel
theorem dX4_firstWrong_5 : decode cX4_firstWrong 5 = .ok (.aload_n 0, 1) := by decide +kernel
theorem dX4_firstWrong_6 : decode cX4_firstWrong 6 = .ok (.getfield 15, 3) := by decide +kernel
theorem dX4_firstWrong_9 : decode cX4_firstWrong 9 = .ok (.if_icmp .ge 26, 3) := by decide +kernel
theorem dX4_firstWrong_12 : decode cX4_firstWrong 12 = .ok (.iload_n 1, 1) := by decide +kernel
theorem dX4_firstWrong_13 : decode cX4_firstWrong 13 = .ok (.aload_n 0, 1) := by decide +kernel
theorem dX4_firstWrong_14 : decode cX4_firstWrong 14 = .ok (.getfield 9, 3) := by decide +kernel
theorem dX4_firstWrong_17 : decode cX4_firstWrong 17 = .ok (.iload_n 2, 1) := by decide +kernel
theorem dX4_firstWrong_18 : decode cX4_firstWrong 18 = .ok (.iaload, 1) := by decide +kernel
theorem dX4_firstWrong_19 : decode cX4_firstWrong 19 = .ok (.invokestatic 23, 3) := by decide +kernel
theorem dX4_firstWrong_22 : decode cX4_firstWrong 22 = .ok (.istore_n 1, 1) := by decide +kernel
theorem dX4_firstWrong_23 : decode cX4_firstWrong 23 = .ok (.iload_n 1, 1) := by decide +kernel
theorem dX4_firstWrong_24 : decode cX4_firstWrong 24 = .ok (.ifCond .ne 5, 3) := by decide +kernel
theorem dX4_firstWrong_27 : decode cX4_firstWrong 27 = .ok (.iload_n 2, 1) := by decide +kernel
theorem dX4_firstWrong_28 : decode cX4_firstWrong 28 = .ok (.ireturn, 1) := by decide +kernel
theorem dX4_firstWrong_29 : decode cX4_firstWrong 29 = .ok (.iinc 2 1, 3) := by decide +kernel
theorem dX4_firstWrong_32 : decode cX4_firstWrong 32 = .ok (.goto (-28), 3) := by decide +kernel
theorem dX4_firstWrong_35 : decode cX4_firstWrong 35 = .ok (.aload_n 0, 1) := by decide +kernel
theorem dX4_firstWrong_36 : decode cX4_firstWrong 36 = .ok (.getfield 15, 3) := by decide +kernel
theorem dX4_firstWrong_39 : decode cX4_firstWrong 39 = .ok (.ireturn, 1) := by decide +kernel
set_option maxRecDepth 100000 in
theorem ggX4_isComplete_X4_next : GoodIn wsX4_isComplete wsX4_next := goodIn_r _ [6, 7, 8, 5, 9, 10, 11, 12] rfl (by decide +kernel)
set_option maxRecDepth 100000 in
theorem gX4_isComplete_X4_next : GoodIn wsX4_isComplete (va_wsS RX4 23 yX4_next wsX4_next) := goodIn_app (goodIn_r _ [3, 4, 5] rfl (by decide +kernel)) ggX4_isComplete_X4_next
theorem dX4_isComplete_0 : decode cX4_isComplete 0 = .ok (.iconst 1, 1) := by decide +kernel
theorem dX4_isComplete_1 : decode cX4_isComplete 1 = .ok (.istore_n 1, 1) := by decide +kernel
theorem dX4_isComplete_2 : decode cX4_isComplete 2 = .ok (.iconst 0, 1) := by decide +kernel
theorem dX4_isComplete_3 : decode cX4_isComplete 3 = .ok (.istore_n 2, 1) := by decide +kernel
theorem dX4_isComplete_4 : decode cX4_isComplete 4 = .ok (.iload_n 2, 1) := by decide +kernel
theorem dX4_isComplete_5 : decode cX4_isComplete 5 = .ok (.aload_n 0, 1) := by decide +kernel
theorem dX4_isComplete_6 : decode cX4_isComplete 6 = .ok (.getfield 15, 3) := by decide +kernel
theorem dX4_isComplete_9 : decode cX4_isComplete 9 = .ok (.if_icmp .ge 20, 3) := by decide +kernel
theorem dX4_isComplete_12 : decode cX4_isComplete 12 = .ok (.iload_n 1, 1) := by decide +kernel
theorem dX4_isComplete_13 : decode cX4_isComplete 13 = .ok (.aload_n 0, 1) := by decide +kernel
theorem dX4_isComplete_14 : decode cX4_isComplete 14 = .ok (.getfield 9, 3) := by decide +kernel
theorem dX4_isComplete_17 : decode cX4_isComplete 17 = .ok (.iload_n 2, 1) := by decide +kernel
theorem dX4_isComplete_18 : decode cX4_isComplete 18 = .ok (.iaload, 1) := by decide +kernel
theorem dX4_isComplete_19 : decode cX4_isComplete 19 = .ok (.invokestatic 23, 3) := by decide +kernel
theorem dX4_isComplete_22 : decode cX4_isComplete 22 = .ok (.istore_n 1, 1) := by decide +kernel
theorem dX4_isComplete_23 : decode cX4_isComplete 23 = .ok (.iinc 2 1, 3) := by decide +kernel
theorem dX4_isComplete_26 : decode cX4_isComplete 26 = .ok (.goto (-22), 3) := by decide +kernel
theorem dX4_isComplete_29 : decode cX4_isComplete 29 = .ok (.iload_n 1, 1) := by decide +kernel
theorem dX4_isComplete_30 : decode cX4_isComplete 30 = .ok (.bipush 16, 2) := by decide +kernel
theorem dX4_isComplete_32 : decode cX4_isComplete 32 = .ok (.if_icmp .eq 9, 3) := by decide +kernel
theorem dX4_isComplete_35 : decode cX4_isComplete 35 = .ok (.iload_n 1, 1) := by decide +kernel
theorem dX4_isComplete_36 : decode cX4_isComplete 36 = .ok (.bipush 15, 2) := by decide +kernel
theorem dX4_isComplete_38 : decode cX4_isComplete 38 = .ok (.if_icmp .ne 7, 3) := by decide +kernel
theorem dX4_isComplete_41 : decode cX4_isComplete 41 = .ok (.iconst 1, 1) := by decide +kernel
theorem dX4_isComplete_42 : decode cX4_isComplete 42 = .ok (.goto 4, 3) := by decide +kernel
theorem dX4_isComplete_45 : decode cX4_isComplete 45 = .ok (.iconst 0, 1) := by decide +kernel
theorem dX4_isComplete_46 : decode cX4_isComplete 46 = .ok (.ireturn, 1) := by decide +kernel
set_option maxRecDepth 100000 in
theorem ggX4_endOfPart_X4_codeAt : GoodIn wsX4_endOfPart wsX4_codeAt := goodIn_r _ [6, 1, 7, 8, 9] rfl (by decide +kernel)
set_option maxRecDepth 100000 in
theorem gX4_endOfPart_X4_codeAt : GoodIn wsX4_endOfPart (wsV RX4 27 RX4 yX4_codeAt wsX4_codeAt) := goodIn_app (goodIn_r _ [2, 3, 4, 5] rfl (by decide +kernel)) ggX4_endOfPart_X4_codeAt
theorem dX4_endOfPart_0 : decode cX4_endOfPart 0 = .ok (.iload_n 1, 1) := by decide +kernel
theorem dX4_endOfPart_1 : decode cX4_endOfPart 1 = .ok (.istore_n 2, 1) := by decide +kernel
theorem dX4_endOfPart_2 : decode cX4_endOfPart 2 = .ok (.iload_n 2, 1) := by decide +kernel
theorem dX4_endOfPart_3 : decode cX4_endOfPart 3 = .ok (.aload_n 0, 1) := by decide +kernel
theorem dX4_endOfPart_4 : decode cX4_endOfPart 4 = .ok (.getfield 15, 3) := by decide +kernel
theorem dX4_endOfPart_7 : decode cX4_endOfPart 7 = .ok (.if_icmp .ge 21, 3) := by decide +kernel
theorem dX4_endOfPart_10 : decode cX4_endOfPart 10 = .ok (.aload_n 0, 1) := by decide +kernel
theorem dX4_endOfPart_11 : decode cX4_endOfPart 11 = .ok (.iload_n 2, 1) := by decide +kernel
theorem dX4_endOfPart_12 : decode cX4_endOfPart 12 = .ok (.invokevirtual 27, 3) := by decide +kernel
theorem dX4_endOfPart_15 : decode cX4_endOfPart 15 = .ok (.bipush 59, 2) := by decide +kernel
theorem dX4_endOfPart_17 : decode cX4_endOfPart 17 = .ok (.if_icmp .ne 5, 3) := by decide +kernel
theorem dX4_endOfPart_20 : decode cX4_endOfPart 20 = .ok (.iload_n 2, 1) := by decide +kernel
theorem dX4_endOfPart_21 : decode cX4_endOfPart 21 = .ok (.ireturn, 1) := by decide +kernel
theorem dX4_endOfPart_22 : decode cX4_endOfPart 22 = .ok (.iinc 2 1, 3) := by decide +kernel
theorem dX4_endOfPart_25 : decode cX4_endOfPart 25 = .ok (.goto (-23), 3) := by decide +kernel
theorem dX4_endOfPart_28 : decode cX4_endOfPart 28 = .ok (.aload_n 0, 1) := by decide +kernel
theorem dX4_endOfPart_29 : decode cX4_endOfPart 29 = .ok (.getfield 15, 3) := by decide +kernel
theorem dX4_endOfPart_32 : decode cX4_endOfPart 32 = .ok (.ireturn, 1) := by decide +kernel
set_option maxRecDepth 100000 in
theorem ggX4_number_X4_codeAt : GoodIn wsX4_number wsX4_codeAt := goodIn_r _ [5, 6, 7, 8, 9] rfl (by decide +kernel)
set_option maxRecDepth 100000 in
theorem gX4_number_X4_codeAt : GoodIn wsX4_number (wsV RX4 27 RX4 yX4_codeAt wsX4_codeAt) := goodIn_app (goodIn_r _ [1, 2, 3, 4] rfl (by decide +kernel)) ggX4_number_X4_codeAt
theorem dX4_number_0 : decode cX4_number 0 = .ok (.iconst 0, 1) := by decide +kernel
theorem dX4_number_1 : decode cX4_number 1 = .ok (.istore_n 3, 1) := by decide +kernel
theorem dX4_number_2 : decode cX4_number 2 = .ok (.iload_n 1, 1) := by decide +kernel
theorem dX4_number_3 : decode cX4_number 3 = .ok (.istore 4, 2) := by decide +kernel
theorem dX4_number_5 : decode cX4_number 5 = .ok (.iload 4, 2) := by decide +kernel
theorem dX4_number_7 : decode cX4_number 7 = .ok (.iload_n 2, 1) := by decide +kernel
theorem dX4_number_8 : decode cX4_number 8 = .ok (.if_icmp .ge 24, 3) := by decide +kernel
theorem dX4_number_11 : decode cX4_number 11 = .ok (.bipush 10, 2) := by decide +kernel
theorem dX4_number_13 : decode cX4_number 13 = .ok (.iload_n 3, 1) := by decide +kernel
theorem dX4_number_14 : decode cX4_number 14 = .ok (.imul, 1) := by decide +kernel
theorem dX4_number_15 : decode cX4_number 15 = .ok (.aload_n 0, 1) := by decide +kernel
theorem dX4_number_16 : decode cX4_number 16 = .ok (.iload 4, 2) := by decide +kernel
theorem dX4_number_18 : decode cX4_number 18 = .ok (.invokevirtual 27, 3) := by decide +kernel
theorem dX4_number_21 : decode cX4_number 21 = .ok (.iadd, 1) := by decide +kernel
theorem dX4_number_22 : decode cX4_number 22 = .ok (.bipush 48, 2) := by decide +kernel
theorem dX4_number_24 : decode cX4_number 24 = .ok (.isub, 1) := by decide +kernel
theorem dX4_number_25 : decode cX4_number 25 = .ok (.istore_n 3, 1) := by decide +kernel
theorem dX4_number_26 : decode cX4_number 26 = .ok (.iinc 4 1, 3) := by decide +kernel
theorem dX4_number_29 : decode cX4_number 29 = .ok (.goto (-24), 3) := by decide +kernel
theorem dX4_number_32 : decode cX4_number 32 = .ok (.iload_n 3, 1) := by decide +kernel
theorem dX4_number_33 : decode cX4_number 33 = .ok (.ireturn, 1) := by decide +kernel
set_option maxRecDepth 100000 in
theorem ggX4_next_X4_afterLetter : GoodIn wsX4_next wsX4_afterLetter := goodIn_r _ [4] rfl (by decide +kernel)
set_option maxRecDepth 100000 in
theorem gX4_next_X4_afterLetter : GoodIn wsX4_next (va_wsS RX4 31 yX4_afterLetter wsX4_afterLetter) := goodIn_app (goodIn_r _ [1, 2, 3] rfl (by decide +kernel)) ggX4_next_X4_afterLetter
set_option maxRecDepth 100000 in
theorem ggX4_next_X4_between : GoodIn wsX4_next wsX4_between := goodIn_r _ [7] rfl (by decide +kernel)
set_option maxRecDepth 100000 in
theorem gX4_next_X4_between : GoodIn wsX4_next (va_wsS RX4 34 yX4_between wsX4_between) := goodIn_app (goodIn_r _ [5, 6, 3] rfl (by decide +kernel)) ggX4_next_X4_between
theorem dX4_next_0 : decode cX4_next 0 = .ok (.iload_n 0, 1) := by decide +kernel
theorem dX4_next_1 : decode cX4_next 1 = .ok (.tableswitch 289 1 16 #[79, 84, 95, 105, 115, 137, 148, 170, 181, 192, 203, 214, 225, 247, 258, 279], 79) := by decide +kernel
theorem dX4_next_80 : decode cX4_next 80 = .ok (.iload_n 1, 1) := by decide +kernel
theorem dX4_next_81 : decode cX4_next 81 = .ok (.invokestatic 31, 3) := by decide +kernel
theorem dX4_next_84 : decode cX4_next 84 = .ok (.ireturn, 1) := by decide +kernel
theorem dX4_next_85 : decode cX4_next 85 = .ok (.iload_n 1, 1) := by decide +kernel
theorem dX4_next_86 : decode cX4_next 86 = .ok (.bipush 48, 2) := by decide +kernel
theorem dX4_next_88 : decode cX4_next 88 = .ok (.bipush 50, 2) := by decide +kernel
theorem dX4_next_90 : decode cX4_next 90 = .ok (.bipush 16, 2) := by decide +kernel
theorem dX4_next_92 : decode cX4_next 92 = .ok (.invokestatic 34, 3) := by decide +kernel
theorem dX4_next_95 : decode cX4_next 95 = .ok (.ireturn, 1) := by decide +kernel
theorem dX4_next_96 : decode cX4_next 96 = .ok (.iload_n 1, 1) := by decide +kernel
theorem dX4_next_97 : decode cX4_next 97 = .ok (.bipush 48, 2) := by decide +kernel
theorem dX4_next_99 : decode cX4_next 99 = .ok (.bipush 50, 2) := by decide +kernel
theorem dX4_next_101 : decode cX4_next 101 = .ok (.iconst 4, 1) := by decide +kernel
theorem dX4_next_102 : decode cX4_next 102 = .ok (.invokestatic 34, 3) := by decide +kernel
theorem dX4_next_105 : decode cX4_next 105 = .ok (.ireturn, 1) := by decide +kernel
theorem dX4_next_106 : decode cX4_next 106 = .ok (.iload_n 1, 1) := by decide +kernel
theorem dX4_next_107 : decode cX4_next 107 = .ok (.bipush 61, 2) := by decide +kernel
theorem dX4_next_109 : decode cX4_next 109 = .ok (.bipush 61, 2) := by decide +kernel
theorem dX4_next_111 : decode cX4_next 111 = .ok (.iconst 5, 1) := by decide +kernel
theorem dX4_next_112 : decode cX4_next 112 = .ok (.invokestatic 34, 3) := by decide +kernel
theorem dX4_next_115 : decode cX4_next 115 = .ok (.ireturn, 1) := by decide +kernel
theorem dX4_next_116 : decode cX4_next 116 = .ok (.iload_n 1, 1) := by decide +kernel
theorem dX4_next_117 : decode cX4_next 117 = .ok (.bipush 53, 2) := by decide +kernel
theorem dX4_next_119 : decode cX4_next 119 = .ok (.if_icmp .ne 8, 3) := by decide +kernel
theorem dX4_next_122 : decode cX4_next 122 = .ok (.bipush 7, 2) := by decide +kernel
theorem dX4_next_124 : decode cX4_next 124 = .ok (.goto 13, 3) := by decide +kernel
theorem dX4_next_127 : decode cX4_next 127 = .ok (.iload_n 1, 1) := by decide +kernel
theorem dX4_next_128 : decode cX4_next 128 = .ok (.bipush 52, 2) := by decide +kernel
theorem dX4_next_130 : decode cX4_next 130 = .ok (.bipush 52, 2) := by decide +kernel
theorem dX4_next_132 : decode cX4_next 132 = .ok (.bipush 6, 2) := by decide +kernel
theorem dX4_next_134 : decode cX4_next 134 = .ok (.invokestatic 34, 3) := by decide +kernel
theorem dX4_next_137 : decode cX4_next 137 = .ok (.ireturn, 1) := by decide +kernel
theorem dX4_next_138 : decode cX4_next 138 = .ok (.iload_n 1, 1) := by decide +kernel
theorem dX4_next_139 : decode cX4_next 139 = .ok (.bipush 55, 2) := by decide +kernel
theorem dX4_next_141 : decode cX4_next 141 = .ok (.bipush 57, 2) := by decide +kernel
theorem dX4_next_143 : decode cX4_next 143 = .ok (.bipush 10, 2) := by decide +kernel
theorem dX4_next_145 : decode cX4_next 145 = .ok (.invokestatic 34, 3) := by decide +kernel
theorem dX4_next_148 : decode cX4_next 148 = .ok (.ireturn, 1) := by decide +kernel
theorem dX4_next_149 : decode cX4_next 149 = .ok (.iload_n 1, 1) := by decide +kernel
theorem dX4_next_150 : decode cX4_next 150 = .ok (.bipush 51, 2) := by decide +kernel
theorem dX4_next_152 : decode cX4_next 152 = .ok (.if_icmp .ne 8, 3) := by decide +kernel
theorem dX4_next_155 : decode cX4_next 155 = .ok (.bipush 8, 2) := by decide +kernel
theorem dX4_next_157 : decode cX4_next 157 = .ok (.goto 13, 3) := by decide +kernel
theorem dX4_next_160 : decode cX4_next 160 = .ok (.iload_n 1, 1) := by decide +kernel
theorem dX4_next_161 : decode cX4_next 161 = .ok (.bipush 48, 2) := by decide +kernel
theorem dX4_next_163 : decode cX4_next 163 = .ok (.bipush 50, 2) := by decide +kernel
theorem dX4_next_165 : decode cX4_next 165 = .ok (.bipush 10, 2) := by decide +kernel
theorem dX4_next_167 : decode cX4_next 167 = .ok (.invokestatic 34, 3) := by decide +kernel
theorem dX4_next_170 : decode cX4_next 170 = .ok (.ireturn, 1) := by decide +kernel
theorem dX4_next_171 : decode cX4_next 171 = .ok (.iload_n 1, 1) := by decide +kernel
theorem dX4_next_172 : decode cX4_next 172 = .ok (.bipush 48, 2) := by decide +kernel
theorem dX4_next_174 : decode cX4_next 174 = .ok (.bipush 48, 2) := by decide +kernel
theorem dX4_next_176 : decode cX4_next 176 = .ok (.bipush 9, 2) := by decide +kernel
theorem dX4_next_178 : decode cX4_next 178 = .ok (.invokestatic 34, 3) := by decide +kernel
theorem dX4_next_181 : decode cX4_next 181 = .ok (.ireturn, 1) := by decide +kernel
theorem dX4_next_182 : decode cX4_next 182 = .ok (.iload_n 1, 1) := by decide +kernel
theorem dX4_next_183 : decode cX4_next 183 = .ok (.bipush 48, 2) := by decide +kernel
theorem dX4_next_185 : decode cX4_next 185 = .ok (.bipush 48, 2) := by decide +kernel
theorem dX4_next_187 : decode cX4_next 187 = .ok (.bipush 16, 2) := by decide +kernel
theorem dX4_next_189 : decode cX4_next 189 = .ok (.invokestatic 34, 3) := by decide +kernel
theorem dX4_next_192 : decode cX4_next 192 = .ok (.ireturn, 1) := by decide +kernel
theorem dX4_next_193 : decode cX4_next 193 = .ok (.iload_n 1, 1) := by decide +kernel
theorem dX4_next_194 : decode cX4_next 194 = .ok (.bipush 48, 2) := by decide +kernel
theorem dX4_next_196 : decode cX4_next 196 = .ok (.bipush 57, 2) := by decide +kernel
theorem dX4_next_198 : decode cX4_next 198 = .ok (.bipush 11, 2) := by decide +kernel
theorem dX4_next_200 : decode cX4_next 200 = .ok (.invokestatic 34, 3) := by decide +kernel
theorem dX4_next_203 : decode cX4_next 203 = .ok (.ireturn, 1) := by decide +kernel
theorem dX4_next_204 : decode cX4_next 204 = .ok (.iload_n 1, 1) := by decide +kernel
theorem dX4_next_205 : decode cX4_next 205 = .ok (.bipush 48, 2) := by decide +kernel
theorem dX4_next_207 : decode cX4_next 207 = .ok (.bipush 57, 2) := by decide +kernel
theorem dX4_next_209 : decode cX4_next 209 = .ok (.bipush 16, 2) := by decide +kernel
theorem dX4_next_211 : decode cX4_next 211 = .ok (.invokestatic 34, 3) := by decide +kernel
theorem dX4_next_214 : decode cX4_next 214 = .ok (.ireturn, 1) := by decide +kernel
theorem dX4_next_215 : decode cX4_next 215 = .ok (.iload_n 1, 1) := by decide +kernel
theorem dX4_next_216 : decode cX4_next 216 = .ok (.bipush 48, 2) := by decide +kernel
theorem dX4_next_218 : decode cX4_next 218 = .ok (.bipush 51, 2) := by decide +kernel
theorem dX4_next_220 : decode cX4_next 220 = .ok (.bipush 13, 2) := by decide +kernel
theorem dX4_next_222 : decode cX4_next 222 = .ok (.invokestatic 34, 3) := by decide +kernel
theorem dX4_next_225 : decode cX4_next 225 = .ok (.ireturn, 1) := by decide +kernel
theorem dX4_next_226 : decode cX4_next 226 = .ok (.iload_n 1, 1) := by decide +kernel
theorem dX4_next_227 : decode cX4_next 227 = .ok (.bipush 45, 2) := by decide +kernel
theorem dX4_next_229 : decode cX4_next 229 = .ok (.if_icmp .ne 8, 3) := by decide +kernel
theorem dX4_next_232 : decode cX4_next 232 = .ok (.bipush 16, 2) := by decide +kernel
theorem dX4_next_234 : decode cX4_next 234 = .ok (.goto 13, 3) := by decide +kernel
theorem dX4_next_237 : decode cX4_next 237 = .ok (.iload_n 1, 1) := by decide +kernel
theorem dX4_next_238 : decode cX4_next 238 = .ok (.bipush 43, 2) := by decide +kernel
theorem dX4_next_240 : decode cX4_next 240 = .ok (.bipush 43, 2) := by decide +kernel
theorem dX4_next_242 : decode cX4_next 242 = .ok (.bipush 16, 2) := by decide +kernel
theorem dX4_next_244 : decode cX4_next 244 = .ok (.invokestatic 34, 3) := by decide +kernel
theorem dX4_next_247 : decode cX4_next 247 = .ok (.ireturn, 1) := by decide +kernel
theorem dX4_next_248 : decode cX4_next 248 = .ok (.iload_n 1, 1) := by decide +kernel
theorem dX4_next_249 : decode cX4_next 249 = .ok (.bipush 49, 2) := by decide +kernel
theorem dX4_next_251 : decode cX4_next 251 = .ok (.bipush 57, 2) := by decide +kernel
theorem dX4_next_253 : decode cX4_next 253 = .ok (.bipush 15, 2) := by decide +kernel
theorem dX4_next_255 : decode cX4_next 255 = .ok (.invokestatic 34, 3) := by decide +kernel
theorem dX4_next_258 : decode cX4_next 258 = .ok (.ireturn, 1) := by decide +kernel
theorem dX4_next_259 : decode cX4_next 259 = .ok (.iload_n 1, 1) := by decide +kernel
theorem dX4_next_260 : decode cX4_next 260 = .ok (.bipush 59, 2) := by decide +kernel
theorem dX4_next_262 : decode cX4_next 262 = .ok (.if_icmp .ne 7, 3) := by decide +kernel
theorem dX4_next_265 : decode cX4_next 265 = .ok (.iconst 1, 1) := by decide +kernel
theorem dX4_next_266 : decode cX4_next 266 = .ok (.goto 13, 3) := by decide +kernel
theorem dX4_next_269 : decode cX4_next 269 = .ok (.iload_n 1, 1) := by decide +kernel
theorem dX4_next_270 : decode cX4_next 270 = .ok (.bipush 48, 2) := by decide +kernel
theorem dX4_next_272 : decode cX4_next 272 = .ok (.bipush 57, 2) := by decide +kernel
theorem dX4_next_274 : decode cX4_next 274 = .ok (.bipush 16, 2) := by decide +kernel
theorem dX4_next_276 : decode cX4_next 276 = .ok (.invokestatic 34, 3) := by decide +kernel
theorem dX4_next_279 : decode cX4_next 279 = .ok (.ireturn, 1) := by decide +kernel
theorem dX4_next_280 : decode cX4_next 280 = .ok (.iload_n 1, 1) := by decide +kernel
theorem dX4_next_281 : decode cX4_next 281 = .ok (.bipush 59, 2) := by decide +kernel
theorem dX4_next_283 : decode cX4_next 283 = .ok (.bipush 59, 2) := by decide +kernel
theorem dX4_next_285 : decode cX4_next 285 = .ok (.iconst 1, 1) := by decide +kernel
theorem dX4_next_286 : decode cX4_next 286 = .ok (.invokestatic 34, 3) := by decide +kernel
theorem dX4_next_289 : decode cX4_next 289 = .ok (.ireturn, 1) := by decide +kernel
theorem dX4_next_290 : decode cX4_next 290 = .ok (.iconst 0, 1) := by decide +kernel
theorem dX4_next_291 : decode cX4_next 291 = .ok (.ireturn, 1) := by decide +kernel
theorem dX4_afterLetter_0 : decode cX4_afterLetter 0 = .ok (.iload_n 0, 1) := by decide +kernel
theorem dX4_afterLetter_1 : decode cX4_afterLetter 1 = .ok (.tableswitch 97 99 116 #[89, 97, 97, 91, 97, 89, 97, 97, 97, 97, 97, 97, 89, 97, 97, 89, 87, 94], 87) := by decide +kernel
theorem dX4_afterLetter_88 : decode cX4_afterLetter 88 = .ok (.iconst 3, 1) := by decide +kernel
theorem dX4_afterLetter_89 : decode cX4_afterLetter 89 = .ok (.ireturn, 1) := by decide +kernel
theorem dX4_afterLetter_90 : decode cX4_afterLetter 90 = .ok (.iconst 2, 1) := by decide +kernel
theorem dX4_afterLetter_91 : decode cX4_afterLetter 91 = .ok (.ireturn, 1) := by decide +kernel
theorem dX4_afterLetter_92 : decode cX4_afterLetter 92 = .ok (.bipush 12, 2) := by decide +kernel
theorem dX4_afterLetter_94 : decode cX4_afterLetter 94 = .ok (.ireturn, 1) := by decide +kernel
theorem dX4_afterLetter_95 : decode cX4_afterLetter 95 = .ok (.bipush 14, 2) := by decide +kernel
theorem dX4_afterLetter_97 : decode cX4_afterLetter 97 = .ok (.ireturn, 1) := by decide +kernel
theorem dX4_afterLetter_98 : decode cX4_afterLetter 98 = .ok (.iconst 0, 1) := by decide +kernel
theorem dX4_afterLetter_99 : decode cX4_afterLetter 99 = .ok (.ireturn, 1) := by decide +kernel
theorem dX4_between_0 : decode cX4_between 0 = .ok (.iload_n 0, 1) := by decide +kernel
theorem dX4_between_1 : decode cX4_between 1 = .ok (.iload_n 1, 1) := by decide +kernel
theorem dX4_between_2 : decode cX4_between 2 = .ok (.if_icmp .lt 12, 3) := by decide +kernel
theorem dX4_between_5 : decode cX4_between 5 = .ok (.iload_n 0, 1) := by decide +kernel
theorem dX4_between_6 : decode cX4_between 6 = .ok (.iload_n 2, 1) := by decide +kernel
theorem dX4_between_7 : decode cX4_between 7 = .ok (.if_icmp .gt 7, 3) := by decide +kernel
theorem dX4_between_10 : decode cX4_between 10 = .ok (.iload_n 3, 1) := by decide +kernel
theorem dX4_between_11 : decode cX4_between 11 = .ok (.goto 4, 3) := by decide +kernel
theorem dX4_between_14 : decode cX4_between 14 = .ok (.iconst 0, 1) := by decide +kernel
theorem dX4_between_15 : decode cX4_between 15 = .ok (.ireturn, 1) := by decide +kernel
