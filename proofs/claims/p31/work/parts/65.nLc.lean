set_option maxRecDepth 100000 in
theorem ggL_law_X5_init : GoodIn wsL_law wsX5_init := goodIn_q _ [(0, 6), (0, 7), (0, 8), (0, 9), (0, 10), (0, 11), (0, 12), (0, 13), (0, 14), (0, 15), (0, 16), (0, 17), (0, 18), (0, 19), (0, 20), (0, 21), (0, 22), (0, 23), (1, 0), (1, 1), (1, 2), (1, 3), (1, 4), (1, 5), (1, 6), (1, 7), (0, 3), (1, 8), (1, 9), (1, 10), (1, 11), (1, 12), (1, 13), (1, 14), (1, 15), (1, 16), (1, 17), (1, 18), (1, 19), (1, 20), (1, 21), (1, 22), (1, 23), (2, 0), (2, 1), (2, 2), (2, 3), (2, 4), (2, 5), (2, 6), (2, 7), (2, 8), (2, 9), (2, 10), (20, 0), (20, 1), (20, 2), (20, 3), (20, 4), (19, 0), (19, 1), (19, 2), (19, 3), (19, 4), (19, 5), (21, 0), (21, 1), (22, 0), (22, 1), (23, 0), (23, 1), (23, 2), (23, 3), (23, 4), (23, 5), (23, 6), (23, 7), (23, 8), (23, 9), (24, 0), (24, 1), (24, 2)] rfl (by decide +kernel)
set_option maxRecDepth 100000 in
theorem gL_law_X5_init : GoodIn wsL_law (wsX5_init) := ggL_law_X5_init
set_option maxRecDepth 100000 in
theorem ggL_law_L_isTold : GoodIn wsL_law wsL_isTold := goodIn_ca (goodIn_ca (goodIn_q _ [(2, 14), (2, 15), (2, 16), (2, 13), (2, 17), (2, 18), (2, 19), (2, 20), (2, 21), (2, 22), (2, 23), (3, 0), (3, 1), (3, 2), (3, 3), (3, 4), (3, 5), (3, 6), (3, 7), (3, 8), (0, 2), (3, 9), (3, 10), (3, 11), (3, 12), (3, 13), (3, 14), (3, 15), (3, 16), (3, 17), (3, 18), (0, 13), (3, 19), (3, 20), (0, 19), (3, 21), (3, 22), (3, 23), (4, 0), (0, 12), (4, 1), (4, 2), (4, 3), (4, 4), (4, 5), (1, 5), (4, 6), (4, 7), (4, 8), (4, 9), (4, 10), (1, 7), (4, 11), (4, 12), (4, 13), (4, 14), (4, 15), (4, 16), (4, 17), (4, 18), (4, 19), (1, 10), (4, 20), (4, 21), (1, 17), (1, 18), (1, 19), (4, 22), (4, 23), (5, 0), (5, 1), (5, 2), (5, 3), (5, 4), (5, 5), (5, 6), (5, 7), (5, 8), (5, 9), (5, 10), (5, 11), (5, 12), (5, 13), (5, 14), (5, 15), (5, 16), (5, 17), (5, 18), (5, 19), (5, 20), (5, 21), (5, 22), (5, 23), (6, 0), (6, 1), (6, 2), (6, 3), (6, 4), (6, 5), (6, 6), (6, 7), (6, 8), (6, 9), (6, 10), (6, 11), (6, 12), (6, 13), (6, 14), (6, 15), (6, 16), (6, 17), (6, 18), (6, 19), (6, 20), (6, 21), (6, 22), (6, 23), (7, 0), (7, 1), (7, 2), (7, 3), (7, 4), (7, 5), (7, 6), (7, 7), (7, 8), (7, 9), (7, 10), (7, 11), (7, 12), (7, 13), (7, 14), (7, 15), (7, 16), (7, 17), (7, 18), (7, 19), (7, 20), (7, 21), (7, 22), (7, 23), (8, 0), (8, 1), (8, 2), (8, 3), (8, 4), (8, 5), (8, 6), (8, 7), (8, 8), (8, 9), (8, 10), (8, 11), (8, 12), (8, 13), (8, 14), (8, 15), (8, 16), (1, 8), (8, 17), (8, 18), (8, 19), (8, 20), (8, 21), (8, 22), (8, 23), (9, 0), (9, 1), (9, 2), (9, 3), (9, 4), (9, 5), (9, 6), (9, 7), (9, 8), (9, 9), (9, 10), (9, 11), (9, 12), (9, 13), (9, 14), (9, 15), (9, 16), (9, 17), (9, 18), (9, 19), (9, 20), (9, 21), (9, 22), (9, 23), (10, 0), (10, 1), (10, 2), (10, 3), (10, 4), (10, 5), (10, 6), (10, 7), (10, 8), (10, 9), (10, 10), (10, 11), (10, 12), (10, 13), (10, 14), (10, 15), (10, 16), (10, 17), (10, 18), (19, 0), (19, 1), (19, 2), (19, 3), (19, 4), (19, 5), (20, 0), (20, 1), (20, 2), (20, 3), (20, 4), (21, 0), (21, 1), (23, 0), (23, 1), (23, 2), (23, 3), (23, 4), (23, 5), (23, 6), (23, 7), (23, 8), (23, 9), (24, 0), (24, 1), (24, 2)] rfl (by decide +kernel)) (goodIn_sub (fun _ h => List.mem_append_left _ (List.mem_append_left _ (List.mem_append_right _ h))) (by decide +kernel))) (goodIn_sub (fun _ h => List.mem_append_left _ (List.mem_append_right _ h)) (by decide +kernel))
set_option maxRecDepth 100000 in
theorem gL_law_L_isTold : GoodIn wsL_law (va_wsS RL 130 yL_isTold wsL_isTold) := goodIn_app (goodIn_q _ [(2, 11), (2, 12), (2, 13)] rfl (by decide +kernel)) ggL_law_L_isTold
set_option maxRecDepth 100000 in
theorem ggL_law_L_cell : GoodIn wsL_law wsL_cell := goodIn_q _ [(10, 21), (10, 22)] rfl (by decide +kernel)
set_option maxRecDepth 100000 in
theorem gL_law_L_cell : GoodIn wsL_law (va_wsS RL 134 yL_cell wsL_cell) := goodIn_app (goodIn_q _ [(10, 19), (10, 20), (2, 13)] rfl (by decide +kernel)) ggL_law_L_cell
set_option maxRecDepth 100000 in
theorem ggL_law_L_low : GoodIn wsL_law wsL_low := goodIn_q _ [(11, 1), (11, 2)] rfl (by decide +kernel)
set_option maxRecDepth 100000 in
theorem gL_law_L_low : GoodIn wsL_law (va_wsS RL 71 yL_low wsL_low) := goodIn_app (goodIn_q _ [(10, 23), (11, 0), (2, 13)] rfl (by decide +kernel)) ggL_law_L_low
set_option maxRecDepth 100000 in
theorem ggL_law_L_acts : GoodIn wsL_law wsL_acts := goodIn_ca (goodIn_ca (goodIn_ca (goodIn_q _ [(11, 5), (10, 23), (11, 0), (2, 13), (11, 1), (11, 2), (6, 20), (6, 21), (6, 22), (0, 2), (6, 23), (7, 0), (7, 1), (7, 2), (7, 3), (7, 4), (7, 5), (7, 6), (7, 7), (3, 10), (3, 11), (3, 12), (3, 13), (3, 14), (7, 8), (7, 9), (7, 10), (7, 11), (0, 13), (7, 12), (7, 13), (7, 14), (7, 15), (7, 16), (7, 17), (7, 18), (7, 19), (7, 20), (7, 21), (7, 22), (7, 23), (6, 4), (6, 5), (4, 22), (4, 23), (5, 0), (0, 12), (5, 1), (4, 2), (4, 3), (4, 4), (4, 5), (1, 5), (4, 6), (4, 7), (4, 8), (4, 9), (4, 10), (1, 7), (4, 11), (4, 12), (4, 13), (4, 14), (4, 15), (4, 16), (4, 17), (4, 18), (4, 19), (1, 10), (4, 20), (4, 21), (1, 17), (1, 18), (1, 19), (8, 0), (5, 8), (5, 9), (5, 10), (5, 11), (5, 12), (5, 13), (5, 14), (5, 15), (5, 16), (5, 17), (5, 18), (8, 1), (8, 2), (8, 3), (8, 4), (8, 5), (8, 6), (8, 7), (8, 8), (8, 9), (8, 10), (8, 11), (8, 12), (6, 3), (8, 13), (8, 14), (8, 15), (8, 16), (1, 8), (8, 17), (8, 18), (11, 6), (11, 7), (11, 8), (11, 9), (11, 10), (11, 11), (0, 19), (11, 12), (11, 13), (11, 14), (0, 18), (11, 15), (11, 16), (2, 5), (11, 17), (11, 18), (11, 19), (11, 20), (11, 21), (11, 22), (11, 23), (12, 0), (12, 1), (12, 2), (12, 3), (12, 4), (12, 5), (12, 6), (12, 7), (12, 8), (12, 9), (12, 10), (12, 11), (12, 12), (12, 13), (12, 14), (1, 12), (12, 15), (12, 16), (1, 23), (12, 17), (2, 18), (2, 19), (2, 20), (2, 21), (2, 22), (2, 23), (3, 0), (3, 1), (3, 2), (3, 3), (3, 4), (3, 5), (12, 18), (12, 19), (12, 20), (12, 21), (12, 22), (12, 23), (13, 0), (13, 1), (9, 18), (9, 19), (9, 8), (9, 9), (9, 10), (9, 11), (9, 12), (9, 13), (13, 2), (13, 3), (13, 4), (13, 5), (9, 20), (13, 6), (13, 7), (13, 8), (13, 9), (13, 10), (13, 11), (10, 2), (10, 3), (10, 4), (10, 5), (13, 12), (13, 13), (13, 14), (13, 15), (13, 16), (13, 17), (13, 18), (13, 19), (13, 20), (13, 21), (13, 22), (13, 23), (14, 0), (14, 1), (14, 2), (14, 3), (14, 4), (14, 5), (14, 6), (14, 7), (14, 8), (14, 9), (5, 23), (6, 0), (6, 1), (6, 2), (14, 10), (14, 11), (14, 12), (14, 13), (14, 14), (14, 15), (14, 16), (14, 17), (14, 18), (14, 19), (14, 20), (8, 22), (8, 23), (9, 0), (9, 1), (9, 2), (9, 3), (8, 19), (8, 20), (8, 21), (14, 21), (14, 22), (14, 23), (15, 0), (15, 1), (15, 2), (15, 3), (15, 4), (15, 5), (15, 6), (15, 7), (15, 8), (15, 9), (15, 10), (15, 11), (15, 12), (15, 13), (15, 14), (15, 15), (15, 16), (15, 17), (15, 18), (15, 19), (2, 15), (2, 16), (2, 17), (15, 20), (15, 21), (15, 22), (15, 23), (16, 0), (16, 1), (16, 2), (16, 3), (16, 4), (16, 5), (16, 6), (16, 7), (16, 8), (5, 20), (5, 21), (5, 22), (5, 7), (16, 9), (16, 10), (16, 11), (16, 12), (16, 13), (16, 14), (16, 15), (16, 16), (16, 17), (16, 18), (16, 19), (16, 20), (6, 19), (16, 21), (16, 22), (16, 23), (17, 0), (17, 1), (17, 2), (6, 14), (17, 3), (19, 0), (19, 1), (19, 2), (19, 3), (19, 4), (19, 5), (20, 0), (20, 1), (20, 2), (20, 3), (20, 4), (23, 0), (23, 1), (23, 2), (23, 3), (23, 4), (23, 5), (23, 6), (23, 7), (23, 8), (23, 9), (24, 0), (24, 1), (24, 2), (21, 0), (21, 1)] rfl (by decide +kernel)) (goodIn_sub (fun _ h => List.mem_append_left _ (List.mem_append_right _ h)) (by decide +kernel))) (goodIn_sub (fun _ h => List.mem_append_left _ (List.mem_append_left _ (List.mem_append_right _ h))) (by decide +kernel))) (goodIn_sub (fun _ h => List.mem_append_right _ h) (by decide +kernel))
set_option maxRecDepth 100000 in
theorem gL_law_L_acts : GoodIn wsL_law (va_wsS RL 137 yL_acts wsL_acts) := goodIn_app (goodIn_q _ [(11, 3), (11, 4), (2, 13)] rfl (by decide +kernel)) ggL_law_L_acts
set_option maxRecDepth 100000 in
theorem ggL_law_L_would : GoodIn wsL_law wsL_would := goodIn_ca (goodIn_ca (goodIn_q _ [(17, 6), (10, 23), (11, 0), (2, 13), (11, 1), (11, 2), (2, 15), (2, 16), (2, 17), (2, 18), (2, 19), (2, 20), (2, 21), (2, 22), (2, 23), (3, 0), (3, 1), (3, 2), (3, 3), (3, 4), (3, 5), (17, 7), (17, 8), (17, 9), (0, 2), (17, 10), (7, 0), (7, 1), (7, 2), (7, 3), (7, 4), (7, 5), (7, 6), (7, 7), (3, 10), (3, 11), (3, 12), (3, 13), (3, 14), (17, 11), (17, 12), (17, 13), (17, 14), (0, 14), (0, 13), (7, 12), (7, 15), (17, 15), (11, 22), (11, 23), (0, 12), (12, 0), (1, 5), (1, 7), (1, 8), (12, 1), (12, 2), (12, 3), (12, 4), (12, 5), (1, 10), (12, 6), (1, 19), (1, 17), (1, 18), (12, 7), (4, 21), (8, 5), (12, 8), (12, 9), (12, 10), (12, 11), (12, 12), (12, 13), (12, 14), (1, 12), (12, 15), (12, 16), (1, 23), (12, 17), (4, 22), (4, 23), (5, 0), (5, 1), (4, 2), (4, 3), (4, 4), (4, 5), (4, 6), (4, 7), (4, 8), (4, 9), (4, 10), (4, 11), (4, 12), (4, 13), (4, 14), (4, 15), (4, 16), (4, 17), (4, 18), (4, 19), (4, 20), (8, 0), (5, 8), (5, 9), (5, 10), (5, 11), (5, 12), (5, 13), (5, 14), (5, 15), (5, 16), (5, 17), (5, 18), (5, 19), (5, 20), (5, 21), (5, 22), (17, 16), (17, 17), (17, 18), (8, 22), (8, 23), (9, 0), (9, 1), (9, 2), (9, 3), (8, 19), (8, 20), (8, 21), (15, 17), (15, 18), (15, 19), (14, 10), (14, 11), (14, 12), (13, 15), (13, 16), (13, 17), (17, 19), (17, 20), (17, 21), (17, 22), (17, 23), (18, 0), (18, 1), (18, 2), (7, 16), (8, 9), (8, 10), (8, 11), (8, 12), (6, 3), (8, 13), (8, 14), (8, 15), (8, 16), (8, 17), (8, 18), (8, 2), (8, 3), (8, 4), (8, 6), (8, 7), (8, 8), (18, 3), (16, 5), (16, 6), (16, 7), (16, 8), (5, 7), (16, 9), (16, 10), (16, 11), (16, 12), (16, 13), (16, 14), (16, 15), (16, 16), (16, 17), (16, 18), (16, 19), (16, 20), (6, 19), (16, 21), (16, 22), (16, 23), (17, 0), (17, 1), (17, 2), (6, 14), (17, 3), (14, 18), (14, 19), (14, 20), (14, 6), (14, 7), (14, 8), (14, 9), (18, 4), (18, 5), (18, 6), (18, 7), (19, 0), (19, 1), (19, 2), (19, 3), (19, 4), (19, 5), (20, 0), (20, 1), (20, 2), (20, 3), (20, 4), (23, 0), (23, 1), (23, 2), (23, 3), (23, 4), (23, 5), (23, 6), (23, 7), (23, 8), (23, 9), (24, 0), (24, 1), (24, 2)] rfl (by decide +kernel)) (goodIn_sub (fun _ h => List.mem_append_left _ (List.mem_append_right _ h)) (by decide +kernel))) (goodIn_sub (fun _ h => List.mem_append_left _ (List.mem_append_left _ (List.mem_append_right _ h))) (by decide +kernel))
set_option maxRecDepth 100000 in
theorem gL_law_L_would : GoodIn wsL_law (va_wsS RL 141 yL_would wsL_would) := goodIn_app (goodIn_q _ [(17, 4), (17, 5), (2, 13)] rfl (by decide +kernel)) ggL_law_L_would
set_option maxRecDepth 100000 in
theorem ggL_law_L_isFair : GoodIn wsL_law wsL_isFair := goodIn_ca (goodIn_q _ [(18, 10), (18, 11), (18, 12), (18, 13), (0, 2), (18, 14), (7, 0), (7, 1), (7, 2), (7, 3), (7, 4), (7, 5), (7, 6), (7, 7), (18, 15), (18, 16), (18, 17), (18, 18), (0, 13), (7, 12), (7, 17), (7, 13), (0, 14), (7, 15), (18, 19), (8, 15), (5, 13), (8, 16), (10, 10), (10, 11), (10, 12), (0, 12), (10, 13), (1, 5), (4, 6), (10, 14), (5, 2), (4, 8), (4, 9), (4, 10), (1, 7), (4, 11), (4, 12), (4, 2), (4, 3), (4, 4), (4, 5), (17, 15), (11, 22), (11, 23), (12, 0), (1, 8), (12, 1), (12, 2), (12, 3), (12, 4), (12, 5), (1, 10), (12, 6), (1, 19), (1, 17), (1, 18), (12, 7), (4, 21), (8, 5), (12, 8), (12, 9), (12, 10), (12, 11), (12, 12), (12, 13), (12, 14), (1, 12), (12, 15), (12, 16), (1, 23), (12, 17), (4, 22), (4, 23), (5, 0), (5, 1), (4, 7), (4, 13), (4, 14), (4, 15), (4, 16), (4, 17), (4, 18), (4, 19), (4, 20), (8, 0), (5, 8), (5, 9), (5, 10), (5, 11), (5, 12), (5, 14), (5, 15), (5, 16), (5, 17), (5, 18), (3, 3), (3, 4), (2, 13), (3, 5), (2, 15), (2, 16), (2, 17), (2, 18), (2, 19), (2, 20), (2, 21), (2, 22), (2, 23), (3, 0), (3, 1), (3, 2), (9, 1), (9, 2), (9, 3), (19, 0), (19, 1), (19, 2), (19, 3), (19, 4), (19, 5), (20, 0), (20, 1), (20, 2), (20, 3), (20, 4), (23, 0), (23, 1), (23, 2), (23, 3), (23, 4), (23, 5), (23, 6), (23, 7), (23, 8), (23, 9), (24, 0), (24, 1), (24, 2)] rfl (by decide +kernel)) (goodIn_sub (fun _ h => List.mem_append_left _ (List.mem_append_right _ h)) (by decide +kernel))
set_option maxRecDepth 100000 in
theorem gL_law_L_isFair : GoodIn wsL_law (va_wsS RL 145 yL_isFair wsL_isFair) := goodIn_app (goodIn_q _ [(18, 8), (18, 9), (2, 13)] rfl (by decide +kernel)) ggL_law_L_isFair
theorem dL_law_0 : decode cL_law 0 = .ok (.new 45, 3) := by decide +kernel
theorem dL_law_3 : decode cL_law 3 = .ok (.dup, 1) := by decide +kernel
theorem dL_law_4 : decode cL_law 4 = .ok (.invokespecial 129, 3) := by decide +kernel
theorem dL_law_7 : decode cL_law 7 = .ok (.astore_n 1, 1) := by decide +kernel
theorem dL_law_8 : decode cL_law 8 = .ok (.bipush 30, 2) := by decide +kernel
theorem dL_law_10 : decode cL_law 10 = .ok (.newarray .int, 2) := by decide +kernel
theorem dL_law_12 : decode cL_law 12 = .ok (.astore_n 2, 1) := by decide +kernel
theorem dL_law_13 : decode cL_law 13 = .ok (.bipush 12, 2) := by decide +kernel
theorem dL_law_15 : decode cL_law 15 = .ok (.newarray .int, 2) := by decide +kernel
theorem dL_law_17 : decode cL_law 17 = .ok (.astore_n 3, 1) := by decide +kernel
theorem dL_law_18 : decode cL_law 18 = .ok (.bipush 8, 2) := by decide +kernel
theorem dL_law_20 : decode cL_law 20 = .ok (.newarray .int, 2) := by decide +kernel
theorem dL_law_22 : decode cL_law 22 = .ok (.astore 4, 2) := by decide +kernel
theorem dL_law_24 : decode cL_law 24 = .ok (.iconst 4, 1) := by decide +kernel
theorem dL_law_25 : decode cL_law 25 = .ok (.newarray .int, 2) := by decide +kernel
theorem dL_law_27 : decode cL_law 27 = .ok (.astore 5, 2) := by decide +kernel
theorem dL_law_29 : decode cL_law 29 = .ok (.bipush 30, 2) := by decide +kernel
theorem dL_law_31 : decode cL_law 31 = .ok (.newarray .int, 2) := by decide +kernel
theorem dL_law_33 : decode cL_law 33 = .ok (.astore 6, 2) := by decide +kernel
theorem dL_law_35 : decode cL_law 35 = .ok (.bipush 12, 2) := by decide +kernel
theorem dL_law_37 : decode cL_law 37 = .ok (.newarray .int, 2) := by decide +kernel
theorem dL_law_39 : decode cL_law 39 = .ok (.astore 7, 2) := by decide +kernel
theorem dL_law_41 : decode cL_law 41 = .ok (.bipush 8, 2) := by decide +kernel
theorem dL_law_43 : decode cL_law 43 = .ok (.newarray .int, 2) := by decide +kernel
theorem dL_law_45 : decode cL_law 45 = .ok (.astore 8, 2) := by decide +kernel
theorem dL_law_47 : decode cL_law 47 = .ok (.aload 4, 2) := by decide +kernel
theorem dL_law_49 : decode cL_law 49 = .ok (.iconst 0, 1) := by decide +kernel
theorem dL_law_50 : decode cL_law 50 = .ok (.iconst 3, 1) := by decide +kernel
theorem dL_law_51 : decode cL_law 51 = .ok (.iastore, 1) := by decide +kernel
theorem dL_law_52 : decode cL_law 52 = .ok (.aload 4, 2) := by decide +kernel
theorem dL_law_54 : decode cL_law 54 = .ok (.iconst 1, 1) := by decide +kernel
theorem dL_law_55 : decode cL_law 55 = .ok (.iconst 2, 1) := by decide +kernel
theorem dL_law_56 : decode cL_law 56 = .ok (.iastore, 1) := by decide +kernel
theorem dL_law_57 : decode cL_law 57 = .ok (.aload 4, 2) := by decide +kernel
theorem dL_law_59 : decode cL_law 59 = .ok (.iconst 2, 1) := by decide +kernel
theorem dL_law_60 : decode cL_law 60 = .ok (.bipush 10, 2) := by decide +kernel
theorem dL_law_62 : decode cL_law 62 = .ok (.iastore, 1) := by decide +kernel
theorem dL_law_63 : decode cL_law 63 = .ok (.aload 4, 2) := by decide +kernel
theorem dL_law_65 : decode cL_law 65 = .ok (.iconst 3, 1) := by decide +kernel
theorem dL_law_66 : decode cL_law 66 = .ok (.bipush 30, 2) := by decide +kernel
theorem dL_law_68 : decode cL_law 68 = .ok (.iastore, 1) := by decide +kernel
theorem dL_law_69 : decode cL_law 69 = .ok (.iconst 0, 1) := by decide +kernel
theorem dL_law_70 : decode cL_law 70 = .ok (.istore 9, 2) := by decide +kernel
theorem dL_law_72 : decode cL_law 72 = .ok (.iload 9, 2) := by decide +kernel
theorem dL_law_74 : decode cL_law 74 = .ok (.iconst 3, 1) := by decide +kernel
theorem dL_law_75 : decode cL_law 75 = .ok (.if_icmp .ge 49, 3) := by decide +kernel
theorem dL_law_78 : decode cL_law 78 = .ok (.aload_n 2, 1) := by decide +kernel
theorem dL_law_79 : decode cL_law 79 = .ok (.bipush 10, 2) := by decide +kernel
theorem dL_law_81 : decode cL_law 81 = .ok (.iload 9, 2) := by decide +kernel
theorem dL_law_83 : decode cL_law 83 = .ok (.imul, 1) := by decide +kernel
theorem dL_law_84 : decode cL_law 84 = .ok (.sipush 200, 3) := by decide +kernel
theorem dL_law_87 : decode cL_law 87 = .ok (.bipush 100, 2) := by decide +kernel
theorem dL_law_89 : decode cL_law 89 = .ok (.iload 9, 2) := by decide +kernel
theorem dL_law_91 : decode cL_law 91 = .ok (.imul, 1) := by decide +kernel
theorem dL_law_92 : decode cL_law 92 = .ok (.iadd, 1) := by decide +kernel
theorem dL_law_93 : decode cL_law 93 = .ok (.iastore, 1) := by decide +kernel
theorem dL_law_94 : decode cL_law 94 = .ok (.aload_n 2, 1) := by decide +kernel
theorem dL_law_95 : decode cL_law 95 = .ok (.bipush 10, 2) := by decide +kernel
theorem dL_law_97 : decode cL_law 97 = .ok (.iload 9, 2) := by decide +kernel
theorem dL_law_99 : decode cL_law 99 = .ok (.imul, 1) := by decide +kernel
theorem dL_law_100 : decode cL_law 100 = .ok (.iconst 1, 1) := by decide +kernel
theorem dL_law_101 : decode cL_law 101 = .ok (.iadd, 1) := by decide +kernel
theorem dL_law_102 : decode cL_law 102 = .ok (.sipush 200, 3) := by decide +kernel
theorem dL_law_105 : decode cL_law 105 = .ok (.iastore, 1) := by decide +kernel
theorem dL_law_106 : decode cL_law 106 = .ok (.aload_n 2, 1) := by decide +kernel
theorem dL_law_107 : decode cL_law 107 = .ok (.bipush 10, 2) := by decide +kernel
theorem dL_law_109 : decode cL_law 109 = .ok (.iload 9, 2) := by decide +kernel
theorem dL_law_111 : decode cL_law 111 = .ok (.imul, 1) := by decide +kernel
theorem dL_law_112 : decode cL_law 112 = .ok (.iconst 2, 1) := by decide +kernel
theorem dL_law_113 : decode cL_law 113 = .ok (.iadd, 1) := by decide +kernel
theorem dL_law_114 : decode cL_law 114 = .ok (.sipush 5000, 3) := by decide +kernel
theorem dL_law_117 : decode cL_law 117 = .ok (.iastore, 1) := by decide +kernel
theorem dL_law_118 : decode cL_law 118 = .ok (.iinc 9 1, 3) := by decide +kernel
theorem dL_law_121 : decode cL_law 121 = .ok (.goto (-49), 3) := by decide +kernel
theorem dL_law_124 : decode cL_law 124 = .ok (.iconst 0, 1) := by decide +kernel
theorem dL_law_125 : decode cL_law 125 = .ok (.istore 9, 2) := by decide +kernel
theorem dL_law_127 : decode cL_law 127 = .ok (.iload 9, 2) := by decide +kernel
theorem dL_law_129 : decode cL_law 129 = .ok (.iconst 4, 1) := by decide +kernel
theorem dL_law_130 : decode cL_law 130 = .ok (.if_icmp .ge 16, 3) := by decide +kernel
theorem dL_law_133 : decode cL_law 133 = .ok (.aload_n 3, 1) := by decide +kernel
theorem dL_law_134 : decode cL_law 134 = .ok (.iconst 4, 1) := by decide +kernel
theorem dL_law_135 : decode cL_law 135 = .ok (.iload 9, 2) := by decide +kernel
theorem dL_law_137 : decode cL_law 137 = .ok (.iadd, 1) := by decide +kernel
theorem dL_law_138 : decode cL_law 138 = .ok (.iconst 1, 1) := by decide +kernel
theorem dL_law_139 : decode cL_law 139 = .ok (.iastore, 1) := by decide +kernel
theorem dL_law_140 : decode cL_law 140 = .ok (.iinc 9 1, 3) := by decide +kernel
theorem dL_law_143 : decode cL_law 143 = .ok (.goto (-16), 3) := by decide +kernel
theorem dL_law_146 : decode cL_law 146 = .ok (.aload_n 1, 1) := by decide +kernel
theorem dL_law_147 : decode cL_law 147 = .ok (.aload_n 2, 1) := by decide +kernel
theorem dL_law_148 : decode cL_law 148 = .ok (.aload_n 3, 1) := by decide +kernel
theorem dL_law_149 : decode cL_law 149 = .ok (.aload 4, 2) := by decide +kernel
theorem dL_law_151 : decode cL_law 151 = .ok (.aload 5, 2) := by decide +kernel
theorem dL_law_153 : decode cL_law 153 = .ok (.invokestatic 130, 3) := by decide +kernel
theorem dL_law_156 : decode cL_law 156 = .ok (.istore 9, 2) := by decide +kernel
theorem dL_law_158 : decode cL_law 158 = .ok (.iconst 0, 1) := by decide +kernel
theorem dL_law_159 : decode cL_law 159 = .ok (.istore 10, 2) := by decide +kernel
theorem dL_law_161 : decode cL_law 161 = .ok (.iload 10, 2) := by decide +kernel
theorem dL_law_163 : decode cL_law 163 = .ok (.bipush 44, 2) := by decide +kernel
theorem dL_law_165 : decode cL_law 165 = .ok (.if_icmp .ge 149, 3) := by decide +kernel
theorem dL_law_168 : decode cL_law 168 = .ok (.iload 9, 2) := by decide +kernel
theorem dL_law_170 : decode cL_law 170 = .ok (.ifCond .eq 144, 3) := by decide +kernel
theorem dL_law_173 : decode cL_law 173 = .ok (.aload_n 0, 1) := by decide +kernel
theorem dL_law_174 : decode cL_law 174 = .ok (.iload 10, 2) := by decide +kernel
theorem dL_law_176 : decode cL_law 176 = .ok (.invokestatic 134, 3) := by decide +kernel
theorem dL_law_179 : decode cL_law 179 = .ok (.istore 11, 2) := by decide +kernel
theorem dL_law_181 : decode cL_law 181 = .ok (.aload_n 1, 1) := by decide +kernel
theorem dL_law_182 : decode cL_law 182 = .ok (.aload_n 2, 1) := by decide +kernel
theorem dL_law_183 : decode cL_law 183 = .ok (.aload_n 3, 1) := by decide +kernel
theorem dL_law_184 : decode cL_law 184 = .ok (.aload 4, 2) := by decide +kernel
theorem dL_law_186 : decode cL_law 186 = .ok (.aload 5, 2) := by decide +kernel
theorem dL_law_188 : decode cL_law 188 = .ok (.iload 10, 2) := by decide +kernel
theorem dL_law_190 : decode cL_law 190 = .ok (.iconst 4, 1) := by decide +kernel
theorem dL_law_191 : decode cL_law 191 = .ok (.if_icmp .ge 7, 3) := by decide +kernel
theorem dL_law_194 : decode cL_law 194 = .ok (.iconst 3, 1) := by decide +kernel
theorem dL_law_195 : decode cL_law 195 = .ok (.goto 25, 3) := by decide +kernel
theorem dL_law_198 : decode cL_law 198 = .ok (.iload 10, 2) := by decide +kernel
theorem dL_law_200 : decode cL_law 200 = .ok (.bipush 10, 2) := by decide +kernel
theorem dL_law_202 : decode cL_law 202 = .ok (.if_icmp .ge 8, 3) := by decide +kernel
theorem dL_law_205 : decode cL_law 205 = .ok (.bipush 7, 2) := by decide +kernel
theorem dL_law_207 : decode cL_law 207 = .ok (.goto 13, 3) := by decide +kernel
theorem dL_law_210 : decode cL_law 210 = .ok (.iload 11, 2) := by decide +kernel
theorem dL_law_212 : decode cL_law 212 = .ok (.bipush 18, 2) := by decide +kernel
theorem dL_law_214 : decode cL_law 214 = .ok (.ishr, 1) := by decide +kernel
theorem dL_law_215 : decode cL_law 215 = .ok (.bipush 16, 2) := by decide +kernel
theorem dL_law_217 : decode cL_law 217 = .ok (.invokestatic 71, 3) := by decide +kernel
theorem dL_law_220 : decode cL_law 220 = .ok (.iload 11, 2) := by decide +kernel
theorem dL_law_222 : decode cL_law 222 = .ok (.invokestatic 137, 3) := by decide +kernel
theorem dL_law_225 : decode cL_law 225 = .ok (.ifCond .eq 80, 3) := by decide +kernel
theorem dL_law_228 : decode cL_law 228 = .ok (.aload_n 1, 1) := by decide +kernel
theorem dL_law_229 : decode cL_law 229 = .ok (.aload_n 2, 1) := by decide +kernel
theorem dL_law_230 : decode cL_law 230 = .ok (.aload_n 3, 1) := by decide +kernel
theorem dL_law_231 : decode cL_law 231 = .ok (.aload 4, 2) := by decide +kernel
theorem dL_law_233 : decode cL_law 233 = .ok (.aload 5, 2) := by decide +kernel
theorem dL_law_235 : decode cL_law 235 = .ok (.invokestatic 130, 3) := by decide +kernel
theorem dL_law_238 : decode cL_law 238 = .ok (.ifCond .eq 67, 3) := by decide +kernel
theorem dL_law_241 : decode cL_law 241 = .ok (.iload 10, 2) := by decide +kernel
theorem dL_law_243 : decode cL_law 243 = .ok (.iconst 3, 1) := by decide +kernel
theorem dL_law_244 : decode cL_law 244 = .ok (.irem, 1) := by decide +kernel
theorem dL_law_245 : decode cL_law 245 = .ok (.iconst 2, 1) := by decide +kernel
theorem dL_law_246 : decode cL_law 246 = .ok (.if_icmp .ne 26, 3) := by decide +kernel
theorem dL_law_249 : decode cL_law 249 = .ok (.aload_n 1, 1) := by decide +kernel
theorem dL_law_250 : decode cL_law 250 = .ok (.aload_n 2, 1) := by decide +kernel
theorem dL_law_251 : decode cL_law 251 = .ok (.aload_n 3, 1) := by decide +kernel
theorem dL_law_252 : decode cL_law 252 = .ok (.aload 4, 2) := by decide +kernel
theorem dL_law_254 : decode cL_law 254 = .ok (.aload 5, 2) := by decide +kernel
theorem dL_law_256 : decode cL_law 256 = .ok (.aload 6, 2) := by decide +kernel
theorem dL_law_258 : decode cL_law 258 = .ok (.aload 7, 2) := by decide +kernel
theorem dL_law_260 : decode cL_law 260 = .ok (.aload 8, 2) := by decide +kernel
theorem dL_law_262 : decode cL_law 262 = .ok (.iload 11, 2) := by decide +kernel
theorem dL_law_264 : decode cL_law 264 = .ok (.iconst 5, 1) := by decide +kernel
theorem dL_law_265 : decode cL_law 265 = .ok (.ishr, 1) := by decide +kernel
theorem dL_law_266 : decode cL_law 266 = .ok (.invokestatic 141, 3) := by decide +kernel
theorem dL_law_269 : decode cL_law 269 = .ok (.ifCond .eq 36, 3) := by decide +kernel
theorem dL_law_272 : decode cL_law 272 = .ok (.iload 10, 2) := by decide +kernel
theorem dL_law_274 : decode cL_law 274 = .ok (.bipush 6, 2) := by decide +kernel
theorem dL_law_276 : decode cL_law 276 = .ok (.irem, 1) := by decide +kernel
theorem dL_law_277 : decode cL_law 277 = .ok (.iconst 5, 1) := by decide +kernel
theorem dL_law_278 : decode cL_law 278 = .ok (.if_icmp .ne 23, 3) := by decide +kernel
theorem dL_law_281 : decode cL_law 281 = .ok (.aload_n 1, 1) := by decide +kernel
theorem dL_law_282 : decode cL_law 282 = .ok (.aload_n 2, 1) := by decide +kernel
theorem dL_law_283 : decode cL_law 283 = .ok (.aload_n 3, 1) := by decide +kernel
theorem dL_law_284 : decode cL_law 284 = .ok (.aload 5, 2) := by decide +kernel
theorem dL_law_286 : decode cL_law 286 = .ok (.iload 11, 2) := by decide +kernel
theorem dL_law_288 : decode cL_law 288 = .ok (.bipush 7, 2) := by decide +kernel
theorem dL_law_290 : decode cL_law 290 = .ok (.ishr, 1) := by decide +kernel
theorem dL_law_291 : decode cL_law 291 = .ok (.iconst 3, 1) := by decide +kernel
theorem dL_law_292 : decode cL_law 292 = .ok (.invokestatic 71, 3) := by decide +kernel
theorem dL_law_295 : decode cL_law 295 = .ok (.invokestatic 145, 3) := by decide +kernel
theorem dL_law_298 : decode cL_law 298 = .ok (.ifCond .eq 7, 3) := by decide +kernel
theorem dL_law_301 : decode cL_law 301 = .ok (.iconst 1, 1) := by decide +kernel
theorem dL_law_302 : decode cL_law 302 = .ok (.goto 4, 3) := by decide +kernel
theorem dL_law_305 : decode cL_law 305 = .ok (.iconst 0, 1) := by decide +kernel
theorem dL_law_306 : decode cL_law 306 = .ok (.istore 9, 2) := by decide +kernel
theorem dL_law_308 : decode cL_law 308 = .ok (.iinc 10 1, 3) := by decide +kernel
theorem dL_law_311 : decode cL_law 311 = .ok (.goto (-150), 3) := by decide +kernel
theorem dL_law_314 : decode cL_law 314 = .ok (.iload 9, 2) := by decide +kernel
theorem dL_law_316 : decode cL_law 316 = .ok (.ireturn, 1) := by decide +kernel
