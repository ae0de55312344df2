/-! the law's words lie in the tables -/
set_option maxRecDepth 100000 in
theorem lawIn_1 : ∀ w ∈ wsL_law0_r1, w ∈ lw_tbl := fun w h => (goodIn_p wsL_law0_r1 [32, 35] rfl (by decide +kernel) w h).1
set_option maxRecDepth 100000 in
theorem lawIn_2 : ∀ w ∈ wsL_law0_r2, w ∈ lw_tbl := fun w h => (goodIn_p wsL_law0_r2 [40, 49, 103] rfl (by decide +kernel) w h).1
set_option maxRecDepth 100000 in
theorem lawIn_3 : ∀ w ∈ wsL_law0_r3, w ∈ lw_tbl := fun w h => (goodIn_p wsL_law0_r3 [146, 163, 199, 202, 205, 208] rfl (by decide +kernel) w h).1
set_option maxRecDepth 100000 in
theorem lawIn_4 : ∀ w ∈ wsL_law0_r4, w ∈ lw_tbl := fun w h => (goodIn_p wsL_law0_r4 [211, 214, 218, 221, 293] rfl (by decide +kernel) w h).1
set_option maxRecDepth 100000 in
theorem lawIn_5 : ∀ w ∈ wsL_law0_r5, w ∈ lw_tbl := fun w h => (goodIn_p wsL_law0_r5 [297, 301, 305, 309, 313] rfl (by decide +kernel) w h).1
set_option maxRecDepth 100000 in
theorem lawIn_6 : ∀ w ∈ wsL_law0_r6, w ∈ lw_tbl := fun w h => (goodIn_p wsL_law0_r6 [317, 322, 326, 333, 330, 337] rfl (by decide +kernel) w h).1
set_option maxRecDepth 100000 in
theorem lawIn_7 : ∀ w ∈ wsL_law0_r7, w ∈ lw_tbl := fun w h => (goodIn_p wsL_law0_r7 [341, 344, 348, 352, 356, 360] rfl (by decide +kernel) w h).1
set_option maxRecDepth 100000 in
theorem lawIn_8 : ∀ w ∈ wsL_law0_r8, w ∈ lw_tbl := fun w h => (goodIn_p wsL_law0_r8 [363, 366, 386] rfl (by decide +kernel) w h).1
set_option maxRecDepth 100000 in
theorem lawIn_9 : ∀ w ∈ wsL_law0_r9, w ∈ lw_tbl := fun w h => (goodIn_p wsL_law0_r9 [392, 395, 399, 403, 407] rfl (by decide +kernel) w h).1
set_option maxRecDepth 100000 in
theorem lawIn_10 : ∀ w ∈ wsL_law0_r10, w ∈ lw_tbl := fun w h => (goodIn_p wsL_law0_r10 [410, 413, 417, 420, 423, 428] rfl (by decide +kernel) w h).1
set_option maxRecDepth 100000 in
theorem lawIn_11 : ∀ w ∈ wsL_law0_r11, w ∈ lw_tbl := fun w h => (goodIn_p wsL_law0_r11 [432, 435, 440, 444, 448, 191] rfl (by decide +kernel) w h).1
set_option maxRecDepth 100000 in
theorem lawIn_12 : ∀ w ∈ wsL_law0_r12, w ∈ lw_tbl := fun w h => (goodIn_p wsL_law0_r12 [195, 538, 542, 562, 566] rfl (by decide +kernel) w h).1
set_option maxRecDepth 100000 in
theorem lawIn_13 : ∀ w ∈ wsL_law0_r13, w ∈ lw_tbl := fun w h => (goodIn_p wsL_law0_r13 [463, 467, 471, 571] rfl (by decide +kernel) w h).1
set_option maxRecDepth 100000 in
theorem lawIn_14 : ∀ w ∈ wsL_law0_r14, w ∈ lw_tbl := fun w h => (goodIn_p wsL_law0_r14 [575, 579, 583, 590, 483, 594] rfl (by decide +kernel) w h).1
set_option maxRecDepth 100000 in
theorem lawIn_15 : ∀ w ∈ wsL_law0_r15, w ∈ lw_tbl := fun w h => (goodIn_p wsL_law0_r15 [598, 603, 519, 480, 607, 515] rfl (by decide +kernel) w h).1
set_option maxRecDepth 100000 in
theorem lawIn_16 : ∀ w ∈ wsL_law0_r16, w ∈ lw_tbl := fun w h => (goodIn_p wsL_law0_r16 [613, 618, 622, 626, 631, 477, 635] rfl (by decide +kernel) w h).1
set_option maxRecDepth 100000 in
theorem lawIn_17 : ∀ w ∈ wsL_law0_r17, w ∈ lw_tbl := fun w h => (goodIn_p wsL_law0_r17 [639, 495, 500, 503, 507] rfl (by decide +kernel) w h).1
set_option maxRecDepth 100000 in
theorem lawIn_18 : ∀ w ∈ wsL_law0_r18, w ∈ lw_tbl := fun w h => (goodIn_p wsL_law0_r18 [511, 451, 455, 459, 474, 487] rfl (by decide +kernel) w h).1
set_option maxRecDepth 100000 in
theorem lawIn_19 : ∀ w ∈ wsL_law0_r19, w ∈ lw_tbl := fun w h => (goodIn_p wsL_law0_r19 [491, 523, 526, 530, 534] rfl (by decide +kernel) w h).1
set_option maxRecDepth 100000 in
theorem lawIn_X5 : ∀ w ∈ wsX50, w ∈ lw_tbl := by decide +kernel
set_option maxRecDepth 100000 in
theorem lawIn_X0 : ∀ w ∈ wsX00, w ∈ lw_tbl := by decide +kernel
set_option maxRecDepth 100000 in
theorem lawIn_X3 : ∀ w ∈ wsX30, w ∈ lw_tbl := by decide +kernel
set_option maxRecDepth 100000 in
theorem lawIn_X4 : ∀ w ∈ wsX40, w ∈ lw_tbl := by decide +kernel
set_option maxRecDepth 100000 in
theorem lawIn_X1 : ∀ w ∈ wsX10, w ∈ lw_tbl := by decide +kernel
set_option maxRecDepth 100000 in
theorem lawIn_X2 : ∀ w ∈ wsX20, w ∈ lw_tbl := by decide +kernel
set_option maxRecDepth 100000 in
theorem wsL_law_x0 : ∀ w ∈ (vx_atS RX5 172 "java/lang/IllegalArgumentException" ["java/lang/RuntimeException", "java/lang/Exception"]).filter goodWord, w ∈ lw_tbl := by decide +kernel
set_option maxRecDepth 100000 in
theorem wsL_law_x1 : ∀ w ∈ (vx_atS RX5 273 "java/lang/IndexOutOfBoundsException" ["java/lang/RuntimeException", "java/lang/Exception"]).filter goodWord, w ∈ lw_tbl := by decide +kernel
set_option maxRecDepth 100000 in
theorem wsL_law_x2 : ∀ w ∈ (vx_atS RX5 58 "java/lang/IllegalStateException" ["java/lang/RuntimeException", "java/lang/Exception"]).filter goodWord, w ∈ lw_tbl := by decide +kernel
theorem lawIn_r : ∀ w ∈ (wsL_law0_r1 ++ (wsL_law0_r2 ++ (wsL_law0_r3 ++ (wsL_law0_r4 ++ (wsL_law0_r5 ++ (wsL_law0_r6 ++ (wsL_law0_r7 ++ (wsL_law0_r8 ++ (wsL_law0_r9 ++ (wsL_law0_r10 ++ (wsL_law0_r11 ++ (wsL_law0_r12 ++ (wsL_law0_r13 ++ (wsL_law0_r14 ++ (wsL_law0_r15 ++ (wsL_law0_r16 ++ (wsL_law0_r17 ++ (wsL_law0_r18 ++ (wsL_law0_r19))))))))))))))))))), w ∈ lw_tbl := List.forall_mem_append.mpr ⟨lawIn_1, List.forall_mem_append.mpr ⟨lawIn_2, List.forall_mem_append.mpr ⟨lawIn_3, List.forall_mem_append.mpr ⟨lawIn_4, List.forall_mem_append.mpr ⟨lawIn_5, List.forall_mem_append.mpr ⟨lawIn_6, List.forall_mem_append.mpr ⟨lawIn_7, List.forall_mem_append.mpr ⟨lawIn_8, List.forall_mem_append.mpr ⟨lawIn_9, List.forall_mem_append.mpr ⟨lawIn_10, List.forall_mem_append.mpr ⟨lawIn_11, List.forall_mem_append.mpr ⟨lawIn_12, List.forall_mem_append.mpr ⟨lawIn_13, List.forall_mem_append.mpr ⟨lawIn_14, List.forall_mem_append.mpr ⟨lawIn_15, List.forall_mem_append.mpr ⟨lawIn_16, List.forall_mem_append.mpr ⟨lawIn_17, List.forall_mem_append.mpr ⟨lawIn_18, lawIn_19⟩⟩⟩⟩⟩⟩⟩⟩⟩⟩⟩⟩⟩⟩⟩⟩⟩⟩
theorem lawIn_0 : ∀ w ∈ wsL_law0, w ∈ lw_tbl := List.forall_mem_append.mpr ⟨List.forall_mem_append.mpr ⟨List.forall_mem_append.mpr ⟨List.forall_mem_append.mpr ⟨List.forall_mem_append.mpr ⟨List.forall_mem_append.mpr ⟨List.forall_mem_append.mpr ⟨lawIn_r, lawIn_X5⟩, lawIn_X0⟩, lawIn_X3⟩, lawIn_X4⟩, lawIn_X1⟩, lawIn_X2⟩, fun _ h => absurd h List.not_mem_nil⟩
theorem lawIn : ∀ w ∈ wsL_law, w ∈ lw_tbl := List.forall_mem_append.mpr ⟨List.forall_mem_append.mpr ⟨List.forall_mem_append.mpr ⟨lawIn_0, wsL_law_x0⟩, wsL_law_x1⟩, wsL_law_x2⟩
