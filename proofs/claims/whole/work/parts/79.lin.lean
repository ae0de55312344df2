/-! the law's words lie in the tables -/
set_option maxRecDepth 100000 in
theorem lawIn_1 : ∀ w ∈ wsL_law0_r1, w ∈ lw_tbl := fun w h => (goodIn_p wsL_law0_r1 [90, 93] rfl (by decide +kernel) w h).1
set_option maxRecDepth 100000 in
theorem lawIn_2 : ∀ w ∈ wsL_law0_r2, w ∈ lw_tbl := fun w h => (goodIn_p wsL_law0_r2 [98, 107] rfl (by decide +kernel) w h).1
set_option maxRecDepth 100000 in
theorem lawIn_3 : ∀ w ∈ wsL_law0_r3, w ∈ lw_tbl := fun w h => (goodIn_p wsL_law0_r3 [161, 204, 221, 825] rfl (by decide +kernel) w h).1
set_option maxRecDepth 100000 in
theorem lawIn_4 : ∀ w ∈ wsL_law0_r4, w ∈ lw_tbl := fun w h => (goodIn_p wsL_law0_r4 [830, 475] rfl (by decide +kernel) w h).1
set_option maxRecDepth 100000 in
theorem lawIn_5 : ∀ w ∈ wsL_law0_r5, w ∈ lw_tbl := fun w h => (goodIn_p wsL_law0_r5 [478, 481, 552, 588, 592] rfl (by decide +kernel) w h).1
set_option maxRecDepth 100000 in
theorem lawIn_6 : ∀ w ∈ wsL_law0_r6, w ∈ lw_tbl := fun w h => (goodIn_p wsL_law0_r6 [278, 282, 286] rfl (by decide +kernel) w h).1
set_option maxRecDepth 100000 in
theorem lawIn_7 : ∀ w ∈ wsL_law0_r7, w ∈ lw_tbl := fun w h => (goodIn_p wsL_law0_r7 [890, 893, 896, 900, 904, 908] rfl (by decide +kernel) w h).1
set_option maxRecDepth 100000 in
theorem lawIn_8 : ∀ w ∈ wsL_law0_r8, w ∈ lw_tbl := fun w h => (goodIn_p wsL_law0_r8 [886, 600, 912, 916] rfl (by decide +kernel) w h).1
set_option maxRecDepth 100000 in
theorem lawIn_9 : ∀ w ∈ wsL_law0_r9, w ∈ lw_tbl := fun w h => (goodIn_p wsL_law0_r9 [607, 611, 616, 352, 388, 391, 920] rfl (by decide +kernel) w h).1
set_option maxRecDepth 100000 in
theorem lawIn_10 : ∀ w ∈ wsL_law0_r10, w ∈ lw_tbl := fun w h => (goodIn_p wsL_law0_r10 [924, 928, 932, 623, 627] rfl (by decide +kernel) w h).1
set_option maxRecDepth 100000 in
theorem lawIn_11 : ∀ w ∈ wsL_law0_r11, w ∈ lw_tbl := fun w h => (goodIn_p wsL_law0_r11 [632, 936, 940, 944, 639] rfl (by decide +kernel) w h).1
set_option maxRecDepth 100000 in
theorem lawIn_12 : ∀ w ∈ wsL_law0_r12, w ∈ lw_tbl := fun w h => (goodIn_p wsL_law0_r12 [428, 431, 302, 298, 306] rfl (by decide +kernel) w h).1
set_option maxRecDepth 100000 in
theorem lawIn_13 : ∀ w ∈ wsL_law0_r13, w ∈ lw_tbl := fun w h => (goodIn_p wsL_law0_r13 [310, 314, 421, 424, 644, 948] rfl (by decide +kernel) w h).1
set_option maxRecDepth 100000 in
theorem lawIn_14 : ∀ w ∈ wsL_law0_r14, w ∈ lw_tbl := fun w h => (goodIn_p wsL_law0_r14 [952, 956, 960, 964, 968, 972] rfl (by decide +kernel) w h).1
set_option maxRecDepth 100000 in
theorem lawIn_15 : ∀ w ∈ wsL_law0_r15, w ∈ lw_tbl := fun w h => (goodIn_p wsL_law0_r15 [976, 979, 982, 986, 651, 348] rfl (by decide +kernel) w h).1
set_option maxRecDepth 100000 in
theorem lawIn_16 : ∀ w ∈ wsL_law0_r16, w ∈ lw_tbl := fun w h => (goodIn_p wsL_law0_r16 [990, 660, 663, 666, 994] rfl (by decide +kernel) w h).1
set_option maxRecDepth 100000 in
theorem lawIn_17 : ∀ w ∈ wsL_law0_r17, w ∈ lw_tbl := fun w h => (goodIn_p wsL_law0_r17 [997, 674, 1001, 1005] rfl (by decide +kernel) w h).1
set_option maxRecDepth 100000 in
theorem lawIn_18 : ∀ w ∈ wsL_law0_r18, w ∈ lw_tbl := fun w h => (goodIn_p wsL_law0_r18 [681, 685, 294, 318, 321, 325] rfl (by decide +kernel) w h).1
set_option maxRecDepth 100000 in
theorem lawIn_19 : ∀ w ∈ wsL_law0_r19, w ∈ lw_tbl := fun w h => (goodIn_p wsL_law0_r19 [329, 333, 336, 340, 344] rfl (by decide +kernel) w h).1
set_option maxRecDepth 100000 in
theorem lawIn_20 : ∀ w ∈ wsL_law0_r20, w ∈ lw_tbl := fun w h => (goodIn_p wsL_law0_r20 [1009, 1013, 1017, 1021, 1025, 1029] rfl (by decide +kernel) w h).1
set_option maxRecDepth 100000 in
theorem lawIn_21 : ∀ w ∈ wsL_law0_r21, w ∈ lw_tbl := fun w h => (goodIn_p wsL_law0_r21 [1033, 1037, 693, 696, 1041] rfl (by decide +kernel) w h).1
set_option maxRecDepth 100000 in
theorem lawIn_22 : ∀ w ∈ wsL_law0_r22, w ∈ lw_tbl := fun w h => (goodIn_p wsL_law0_r22 [1044, 708, 712, 717] rfl (by decide +kernel) w h).1
set_option maxRecDepth 100000 in
theorem lawIn_23 : ∀ w ∈ wsL_law0_r23, w ∈ lw_tbl := fun w h => (goodIn_p wsL_law0_r23 [1048, 253, 1052, 257, 261, 264, 267] rfl (by decide +kernel) w h).1
set_option maxRecDepth 100000 in
theorem lawIn_24 : ∀ w ∈ wsL_law0_r24, w ∈ lw_tbl := fun w h => (goodIn_p wsL_law0_r24 [270, 1056, 1060, 1064, 1068] rfl (by decide +kernel) w h).1
set_option maxRecDepth 100000 in
theorem lawIn_25 : ∀ w ∈ wsL_law0_r25, w ∈ lw_tbl := fun w h => (goodIn_p wsL_law0_r25 [1072, 1076, 1080, 1084, 725, 729] rfl (by decide +kernel) w h).1
set_option maxRecDepth 100000 in
theorem lawIn_26 : ∀ w ∈ wsL_law0_r26, w ∈ lw_tbl := fun w h => (goodIn_p wsL_law0_r26 [734, 465, 739, 743, 747] rfl (by decide +kernel) w h).1
set_option maxRecDepth 100000 in
theorem lawIn_27 : ∀ w ∈ wsL_law0_r27, w ∈ lw_tbl := fun w h => (goodIn_p wsL_law0_r27 [751, 1088, 1092, 1096, 274, 1100] rfl (by decide +kernel) w h).1
set_option maxRecDepth 100000 in
theorem lawIn_28 : ∀ w ∈ wsL_law0_r28, w ∈ lw_tbl := fun w h => (goodIn_p wsL_law0_r28 [758, 1104, 766, 771] rfl (by decide +kernel) w h).1
set_option maxRecDepth 100000 in
theorem lawIn_29 : ∀ w ∈ wsL_law0_r29, w ∈ lw_tbl := fun w h => (goodIn_p wsL_law0_r29 [1108, 778, 415] rfl (by decide +kernel) w h).1
set_option maxRecDepth 100000 in
theorem lawIn_30 : ∀ w ∈ wsL_law0_r30, w ∈ lw_tbl := fun w h => (goodIn_p wsL_law0_r30 [1112, 1116, 1120, 785, 449] rfl (by decide +kernel) w h).1
set_option maxRecDepth 100000 in
theorem lawIn_31 : ∀ w ∈ wsL_law0_r31, w ∈ lw_tbl := fun w h => (goodIn_p wsL_law0_r31 [1124, 792, 374, 378, 383] rfl (by decide +kernel) w h).1
set_option maxRecDepth 100000 in
theorem lawIn_32 : ∀ w ∈ wsL_law0_r32, w ∈ lw_tbl := fun w h => (goodIn_p wsL_law0_r32 [395, 399, 403, 1128, 1132, 1136] rfl (by decide +kernel) w h).1
set_option maxRecDepth 100000 in
theorem lawIn_33 : ∀ w ∈ wsL_law0_r33, w ∈ lw_tbl := fun w h => (goodIn_p wsL_law0_r33 [1140, 799, 1144, 806] rfl (by decide +kernel) w h).1
set_option maxRecDepth 100000 in
theorem lawIn_34 : ∀ w ∈ wsL_law0_r34, w ∈ lw_tbl := fun w h => (goodIn_p wsL_law0_r34 [436, 1148, 1152, 813, 440] rfl (by decide +kernel) w h).1
set_option maxRecDepth 100000 in
theorem lawIn_35 : ∀ w ∈ wsL_law0_r35, w ∈ lw_tbl := fun w h => (goodIn_p wsL_law0_r35 [1156, 1160, 1164, 1168, 820] rfl (by decide +kernel) w h).1
set_option maxRecDepth 100000 in
theorem lawIn_36 : ∀ w ∈ wsL_law0_r36, w ∈ lw_tbl := fun w h => (goodIn_p wsL_law0_r36 [444, 360, 1172, 1176, 1180, 290] rfl (by decide +kernel) w h).1
set_option maxRecDepth 100000 in
theorem lawIn_37 : ∀ w ∈ wsL_law0_r37, w ∈ lw_tbl := fun w h => (goodIn_p wsL_law0_r37 [1184, 1188, 356, 1192, 1196, 365] rfl (by decide +kernel) w h).1
set_option maxRecDepth 100000 in
theorem lawIn_38 : ∀ w ∈ wsL_law0_r38, w ∈ lw_tbl := fun w h => (goodIn_p wsL_law0_r38 [1200, 1204, 369, 406, 411] rfl (by decide +kernel) w h).1
set_option maxRecDepth 100000 in
theorem lawIn_39 : ∀ w ∈ wsL_law0_r39, w ∈ lw_tbl := fun w h => (goodIn_p wsL_law0_r39 [454, 460, 1208, 1213, 1218] rfl (by decide +kernel) w h).1
set_option maxRecDepth 100000 in
theorem lawIn_40 : ∀ w ∈ wsL_law0_r40, w ∈ lw_tbl := fun w h => (goodIn_p wsL_law0_r40 [1221, 1224, 1231, 1234] rfl (by decide +kernel) w h).1
set_option maxRecDepth 100000 in
theorem lawIn_X5 : ∀ w ∈ wsX50, w ∈ lw_tbl := by decide +kernel
set_option maxRecDepth 100000 in
theorem lawIn_X6 : ∀ w ∈ wsX60, w ∈ lw_tbl := by decide +kernel
set_option maxRecDepth 100000 in
theorem lawIn_X0 : ∀ w ∈ wsX00, w ∈ lw_tbl := by decide +kernel
set_option maxRecDepth 100000 in
theorem lawIn_X3 : ∀ w ∈ wsX30, w ∈ lw_tbl := by decide +kernel
set_option maxRecDepth 100000 in
theorem lawIn_X4 : ∀ w ∈ wsX40, w ∈ lw_tbl := by decide +kernel
set_option maxRecDepth 100000 in
theorem lawIn_X1 : ∀ w ∈ wsX10, w ∈ lw_tbl := by decide +kernel
set_option maxRecDepth 100000 in
theorem lawIn_X2 : ∀ w ∈ wsX20, w ∈ lw_tbl := by decide +kernel
set_option maxRecDepth 100000 in
theorem wsL_law_x0 : ∀ w ∈ (vx_atS RX5 58 "java/lang/IllegalStateException" ["java/lang/RuntimeException", "java/lang/Exception"]).filter goodWord, w ∈ lw_tbl := by decide +kernel
set_option maxRecDepth 100000 in
theorem wsL_law_x1 : ∀ w ∈ (vx_atS RX5 273 "java/lang/IndexOutOfBoundsException" ["java/lang/RuntimeException", "java/lang/Exception"]).filter goodWord, w ∈ lw_tbl := by decide +kernel
set_option maxRecDepth 100000 in
theorem wsL_law_x2 : ∀ w ∈ (vx_atS RX5 172 "java/lang/IllegalArgumentException" ["java/lang/RuntimeException", "java/lang/Exception"]).filter goodWord, w ∈ lw_tbl := by decide +kernel
theorem lawIn_r : ∀ w ∈ (wsL_law0_r1 ++ (wsL_law0_r2 ++ (wsL_law0_r3 ++ (wsL_law0_r4 ++ (wsL_law0_r5 ++ (wsL_law0_r6 ++ (wsL_law0_r7 ++ (wsL_law0_r8 ++ (wsL_law0_r9 ++ (wsL_law0_r10 ++ (wsL_law0_r11 ++ (wsL_law0_r12 ++ (wsL_law0_r13 ++ (wsL_law0_r14 ++ (wsL_law0_r15 ++ (wsL_law0_r16 ++ (wsL_law0_r17 ++ (wsL_law0_r18 ++ (wsL_law0_r19 ++ (wsL_law0_r20 ++ (wsL_law0_r21 ++ (wsL_law0_r22 ++ (wsL_law0_r23 ++ (wsL_law0_r24 ++ (wsL_law0_r25 ++ (wsL_law0_r26 ++ (wsL_law0_r27 ++ (wsL_law0_r28 ++ (wsL_law0_r29 ++ (wsL_law0_r30 ++ (wsL_law0_r31 ++ (wsL_law0_r32 ++ (wsL_law0_r33 ++ (wsL_law0_r34 ++ (wsL_law0_r35 ++ (wsL_law0_r36 ++ (wsL_law0_r37 ++ (wsL_law0_r38 ++ (wsL_law0_r39 ++ (wsL_law0_r40)))))))))))))))))))))))))))))))))))))))), w ∈ lw_tbl := List.forall_mem_append.mpr ⟨lawIn_1, List.forall_mem_append.mpr ⟨lawIn_2, List.forall_mem_append.mpr ⟨lawIn_3, List.forall_mem_append.mpr ⟨lawIn_4, List.forall_mem_append.mpr ⟨lawIn_5, List.forall_mem_append.mpr ⟨lawIn_6, List.forall_mem_append.mpr ⟨lawIn_7, List.forall_mem_append.mpr ⟨lawIn_8, List.forall_mem_append.mpr ⟨lawIn_9, List.forall_mem_append.mpr ⟨lawIn_10, List.forall_mem_append.mpr ⟨lawIn_11, List.forall_mem_append.mpr ⟨lawIn_12, List.forall_mem_append.mpr ⟨lawIn_13, List.forall_mem_append.mpr ⟨lawIn_14, List.forall_mem_append.mpr ⟨lawIn_15, List.forall_mem_append.mpr ⟨lawIn_16, List.forall_mem_append.mpr ⟨lawIn_17, List.forall_mem_append.mpr ⟨lawIn_18, List.forall_mem_append.mpr ⟨lawIn_19, List.forall_mem_append.mpr ⟨lawIn_20, List.forall_mem_append.mpr ⟨lawIn_21, List.forall_mem_append.mpr ⟨lawIn_22, List.forall_mem_append.mpr ⟨lawIn_23, List.forall_mem_append.mpr ⟨lawIn_24, List.forall_mem_append.mpr ⟨lawIn_25, List.forall_mem_append.mpr ⟨lawIn_26, List.forall_mem_append.mpr ⟨lawIn_27, List.forall_mem_append.mpr ⟨lawIn_28, List.forall_mem_append.mpr ⟨lawIn_29, List.forall_mem_append.mpr ⟨lawIn_30, List.forall_mem_append.mpr ⟨lawIn_31, List.forall_mem_append.mpr ⟨lawIn_32, List.forall_mem_append.mpr ⟨lawIn_33, List.forall_mem_append.mpr ⟨lawIn_34, List.forall_mem_append.mpr ⟨lawIn_35, List.forall_mem_append.mpr ⟨lawIn_36, List.forall_mem_append.mpr ⟨lawIn_37, List.forall_mem_append.mpr ⟨lawIn_38, List.forall_mem_append.mpr ⟨lawIn_39, lawIn_40⟩⟩⟩⟩⟩⟩⟩⟩⟩⟩⟩⟩⟩⟩⟩⟩⟩⟩⟩⟩⟩⟩⟩⟩⟩⟩⟩⟩⟩⟩⟩⟩⟩⟩⟩⟩⟩⟩⟩
theorem lawIn_0 : ∀ w ∈ wsL_law0, w ∈ lw_tbl := List.forall_mem_append.mpr ⟨List.forall_mem_append.mpr ⟨List.forall_mem_append.mpr ⟨List.forall_mem_append.mpr ⟨List.forall_mem_append.mpr ⟨List.forall_mem_append.mpr ⟨List.forall_mem_append.mpr ⟨List.forall_mem_append.mpr ⟨lawIn_r, lawIn_X5⟩, lawIn_X6⟩, lawIn_X0⟩, lawIn_X3⟩, lawIn_X4⟩, lawIn_X1⟩, lawIn_X2⟩, fun _ h => absurd h List.not_mem_nil⟩
theorem lawIn : ∀ w ∈ wsL_law, w ∈ lw_tbl := List.forall_mem_append.mpr ⟨List.forall_mem_append.mpr ⟨List.forall_mem_append.mpr ⟨lawIn_0, wsL_law_x0⟩, wsL_law_x1⟩, wsL_law_x2⟩
