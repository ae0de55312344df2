section
-- ===== PART A: goes FIRST, ahead of the names: the tables' words, and 'selects' of the private methods out of them =====
/-- a private method of a class that the tables say can be made, by its rows of tables_1 -/
def lw_okq (q : MethodName × Nat) : Prop := (q.1.cls ≠ "java/lang/invoke/MethodHandle" ∧ q.1.cls ≠ "java/lang/invoke/VarHandle") ∧ Cond.instantiable q.1.cls q.2 ∈ tables_1 ∧ Cond.privateMethod q.1 ∈ tables_1 ∧ Cond.instanceMethod q.1 ∈ tables_1
set_option maxRecDepth 100000 in
theorem lw_p0 : lw_okq (⟨"DroopBoard$Board", "alive", "()Z"⟩, 5) := ⟨⟨by decide +kernel, by decide +kernel⟩, List.mem_of_getElem? (i := 26) rfl, List.mem_of_getElem? (i := 231) rfl, List.mem_of_getElem? (i := 232) rfl⟩
set_option maxRecDepth 100000 in
theorem lw_p1 : lw_okq (⟨"DroopBoard$Board", "total", "(I)I"⟩, 5) := ⟨⟨by decide +kernel, by decide +kernel⟩, List.mem_of_getElem? (i := 26) rfl, List.mem_of_getElem? (i := 239) rfl, List.mem_of_getElem? (i := 240) rfl⟩
set_option maxRecDepth 100000 in
theorem lw_p2 : lw_okq (⟨"DroopBoard$Board", "lowestClosed", "()I"⟩, 5) := ⟨⟨by decide +kernel, by decide +kernel⟩, List.mem_of_getElem? (i := 26) rfl, List.mem_of_getElem? (i := 258) rfl, List.mem_of_getElem? (i := 259) rfl⟩
set_option maxRecDepth 100000 in
theorem lw_p3 : lw_okq (⟨"DroopBoard$Board", "shed", "()V"⟩, 5) := ⟨⟨by decide +kernel, by decide +kernel⟩, List.mem_of_getElem? (i := 26) rfl, List.mem_of_getElem? (i := 269) rfl, List.mem_of_getElem? (i := 270) rfl⟩
set_option maxRecDepth 100000 in
theorem lw_p4 : lw_okq (⟨"DroopBoard$Board", "trip", "()I"⟩, 5) := ⟨⟨by decide +kernel, by decide +kernel⟩, List.mem_of_getElem? (i := 26) rfl, List.mem_of_getElem? (i := 273) rfl, List.mem_of_getElem? (i := 274) rfl⟩
set_option maxRecDepth 100000 in
theorem lw_p5 : lw_okq (⟨"DroopBoard$Diesel", "beginAnew", "()V"⟩, 10) := ⟨⟨by decide +kernel, by decide +kernel⟩, List.mem_of_getElem? (i := 35) rfl, List.mem_of_getElem? (i := 281) rfl, List.mem_of_getElem? (i := 282) rfl⟩
set_option maxRecDepth 100000 in
theorem lw_p6 : lw_okq (⟨"DroopBoard", "tellCount", "(I)I"⟩, 6) := ⟨⟨by decide +kernel, by decide +kernel⟩, List.mem_of_getElem? (i := 18) rfl, List.mem_of_getElem? (i := 303) rfl, List.mem_of_getElem? (i := 304) rfl⟩
set_option maxRecDepth 100000 in
theorem lw_p7 : lw_okq (⟨"DroopBoard", "mixedWithSet", "(JI)J"⟩, 6) := ⟨⟨by decide +kernel, by decide +kernel⟩, List.mem_of_getElem? (i := 18) rfl, List.mem_of_getElem? (i := 340) rfl, List.mem_of_getElem? (i := 341) rfl⟩
set_option maxRecDepth 100000 in
theorem lw_p8 : lw_okq (⟨"DroopBoard", "tellOfSet", "(II)I"⟩, 6) := ⟨⟨by decide +kernel, by decide +kernel⟩, List.mem_of_getElem? (i := 18) rfl, List.mem_of_getElem? (i := 344) rfl, List.mem_of_getElem? (i := 345) rfl⟩
set_option maxRecDepth 100000 in
theorem lw_p9 : lw_okq (⟨"DroopBoard", "tellIfSpeed", "(III)I"⟩, 6) := ⟨⟨by decide +kernel, by decide +kernel⟩, List.mem_of_getElem? (i := 18) rfl, List.mem_of_getElem? (i := 365) rfl, List.mem_of_getElem? (i := 366) rfl⟩
set_option maxRecDepth 100000 in
theorem lw_p10 : lw_okq (⟨"DroopBoard", "ticksUntilClosing", "(I)I"⟩, 6) := ⟨⟨by decide +kernel, by decide +kernel⟩, List.mem_of_getElem? (i := 18) rfl, List.mem_of_getElem? (i := 369) rfl, List.mem_of_getElem? (i := 370) rfl⟩
set_option maxRecDepth 100000 in
theorem lw_p11 : lw_okq (⟨"DroopBoard", "speedForFairShare", "(I)I"⟩, 6) := ⟨⟨by decide +kernel, by decide +kernel⟩, List.mem_of_getElem? (i := 18) rfl, List.mem_of_getElem? (i := 373) rfl, List.mem_of_getElem? (i := 374) rfl⟩
set_option maxRecDepth 100000 in
theorem lw_p12 : lw_okq (⟨"DroopBoard", "tellOfFeeder", "(II)I"⟩, 6) := ⟨⟨by decide +kernel, by decide +kernel⟩, List.mem_of_getElem? (i := 18) rfl, List.mem_of_getElem? (i := 378) rfl, List.mem_of_getElem? (i := 379) rfl⟩
set_option maxRecDepth 100000 in
theorem lw_p13 : lw_okq (⟨"java/lang/Throwable", "fillInStackTrace", "(I)Ljava/lang/Throwable;"⟩, 6) := ⟨⟨by decide +kernel, by decide +kernel⟩, List.mem_of_getElem? (i := 452) rfl, List.mem_of_getElem? (i := 450) rfl, List.mem_of_getElem? (i := 451) rfl⟩
set_option maxRecDepth 100000 in
theorem lw_p14 : lw_okq (⟨"DroopBoard$History", "dropOldest", "()V"⟩, 2) := ⟨⟨by decide +kernel, by decide +kernel⟩, List.mem_of_getElem? (i := 132) rfl, List.mem_of_getElem? (i := 521) rfl, List.mem_of_getElem? (i := 522) rfl⟩
set_option maxRecDepth 100000 in
theorem lw_p15 : lw_okq (⟨"DroopBoard", "carryOut", "(II)Z"⟩, 6) := ⟨⟨by decide +kernel, by decide +kernel⟩, List.mem_of_getElem? (i := 18) rfl, List.mem_of_getElem? (i := 668) rfl, List.mem_of_getElem? (i := 669) rfl⟩
def lw_privs_1 : List (MethodName × Nat) := [(⟨"DroopBoard$Board", "alive", "()Z"⟩, 5), (⟨"DroopBoard$Board", "total", "(I)I"⟩, 5), (⟨"DroopBoard$Board", "lowestClosed", "()I"⟩, 5), (⟨"DroopBoard$Board", "shed", "()V"⟩, 5), (⟨"DroopBoard$Board", "trip", "()I"⟩, 5), (⟨"DroopBoard$Diesel", "beginAnew", "()V"⟩, 10), (⟨"DroopBoard", "tellCount", "(I)I"⟩, 6), (⟨"DroopBoard", "mixedWithSet", "(JI)J"⟩, 6), (⟨"DroopBoard", "tellOfSet", "(II)I"⟩, 6), (⟨"DroopBoard", "tellIfSpeed", "(III)I"⟩, 6), (⟨"DroopBoard", "ticksUntilClosing", "(I)I"⟩, 6), (⟨"DroopBoard", "speedForFairShare", "(I)I"⟩, 6), (⟨"DroopBoard", "tellOfFeeder", "(II)I"⟩, 6), (⟨"java/lang/Throwable", "fillInStackTrace", "(I)Ljava/lang/Throwable;"⟩, 6), (⟨"DroopBoard$History", "dropOldest", "()V"⟩, 2), (⟨"DroopBoard", "carryOut", "(II)Z"⟩, 6)]
theorem lw_r1 : ∀ q ∈ lw_privs_1, lw_okq q := List.forall_mem_cons.mpr ⟨lw_p0, List.forall_mem_cons.mpr ⟨lw_p1, List.forall_mem_cons.mpr ⟨lw_p2, List.forall_mem_cons.mpr ⟨lw_p3, List.forall_mem_cons.mpr ⟨lw_p4, List.forall_mem_cons.mpr ⟨lw_p5, List.forall_mem_cons.mpr ⟨lw_p6, List.forall_mem_cons.mpr ⟨lw_p7, List.forall_mem_cons.mpr ⟨lw_p8, List.forall_mem_cons.mpr ⟨lw_p9, List.forall_mem_cons.mpr ⟨lw_p10, List.forall_mem_cons.mpr ⟨lw_p11, List.forall_mem_cons.mpr ⟨lw_p12, List.forall_mem_cons.mpr ⟨lw_p13, List.forall_mem_cons.mpr ⟨lw_p14, List.forall_mem_cons.mpr ⟨lw_p15, fun _ h => absurd h List.not_mem_nil⟩⟩⟩⟩⟩⟩⟩⟩⟩⟩⟩⟩⟩⟩⟩⟩
set_option maxRecDepth 100000 in
theorem lw_p16 : lw_okq (⟨"DroopBoard", "switchFeeder", "(IZ)Z"⟩, 6) := ⟨⟨by decide +kernel, by decide +kernel⟩, List.mem_of_getElem? (i := 18) rfl, List.mem_of_getElem? (i := 676) rfl, List.mem_of_getElem? (i := 677) rfl⟩
set_option maxRecDepth 100000 in
theorem lw_p17 : lw_okq (⟨"DroopBoard", "commandSet", "(II)Z"⟩, 6) := ⟨⟨by decide +kernel, by decide +kernel⟩, List.mem_of_getElem? (i := 18) rfl, List.mem_of_getElem? (i := 680) rfl, List.mem_of_getElem? (i := 681) rfl⟩
set_option maxRecDepth 100000 in
theorem lw_p18 : lw_okq (⟨"DroopBoardModel", "put", "(III)V"⟩, 17) := ⟨⟨by decide +kernel, by decide +kernel⟩, List.mem_of_getElem? (i := 753) rfl, List.mem_of_getElem? (i := 759) rfl, List.mem_of_getElem? (i := 760) rfl⟩
set_option maxRecDepth 100000 in
theorem lw_p19 : lw_okq (⟨"DroopBoardModel", "fails", "(I)I"⟩, 17) := ⟨⟨by decide +kernel, by decide +kernel⟩, List.mem_of_getElem? (i := 753) rfl, List.mem_of_getElem? (i := 829) rfl, List.mem_of_getElem? (i := 830) rfl⟩
set_option maxRecDepth 100000 in
theorem lw_p20 : lw_okq (⟨"DroopBoardModel", "of", "(II)I"⟩, 17) := ⟨⟨by decide +kernel, by decide +kernel⟩, List.mem_of_getElem? (i := 753) rfl, List.mem_of_getElem? (i := 833) rfl, List.mem_of_getElem? (i := 834) rfl⟩
set_option maxRecDepth 100000 in
theorem lw_p21 : lw_okq (⟨"DroopBoardModel", "save", "()V"⟩, 17) := ⟨⟨by decide +kernel, by decide +kernel⟩, List.mem_of_getElem? (i := 753) rfl, List.mem_of_getElem? (i := 837) rfl, List.mem_of_getElem? (i := 838) rfl⟩
set_option maxRecDepth 100000 in
theorem lw_p22 : lw_okq (⟨"DroopBoardModel", "speedNow", "(II)I"⟩, 17) := ⟨⟨by decide +kernel, by decide +kernel⟩, List.mem_of_getElem? (i := 753) rfl, List.mem_of_getElem? (i := 845) rfl, List.mem_of_getElem? (i := 846) rfl⟩
set_option maxRecDepth 100000 in
theorem lw_p23 : lw_okq (⟨"DroopBoardModel", "runNow", "(I)I"⟩, 17) := ⟨⟨by decide +kernel, by decide +kernel⟩, List.mem_of_getElem? (i := 753) rfl, List.mem_of_getElem? (i := 853) rfl, List.mem_of_getElem? (i := 854) rfl⟩
set_option maxRecDepth 100000 in
theorem lw_p24 : lw_okq (⟨"DroopBoardModel", "rest", "(I)V"⟩, 17) := ⟨⟨by decide +kernel, by decide +kernel⟩, List.mem_of_getElem? (i := 753) rfl, List.mem_of_getElem? (i := 857) rfl, List.mem_of_getElem? (i := 858) rfl⟩
set_option maxRecDepth 100000 in
theorem lw_p25 : lw_okq (⟨"DroopBoardModel", "sum", "(I)I"⟩, 17) := ⟨⟨by decide +kernel, by decide +kernel⟩, List.mem_of_getElem? (i := 753) rfl, List.mem_of_getElem? (i := 861) rfl, List.mem_of_getElem? (i := 862) rfl⟩
set_option maxRecDepth 100000 in
theorem lw_p26 : lw_okq (⟨"DroopBoardModel", "canHalt", "(I)Z"⟩, 17) := ⟨⟨by decide +kernel, by decide +kernel⟩, List.mem_of_getElem? (i := 753) rfl, List.mem_of_getElem? (i := 869) rfl, List.mem_of_getElem? (i := 870) rfl⟩
set_option maxRecDepth 100000 in
theorem lw_p27 : lw_okq (⟨"DroopBoardModel", "haltNow", "(I)I"⟩, 17) := ⟨⟨by decide +kernel, by decide +kernel⟩, List.mem_of_getElem? (i := 753) rfl, List.mem_of_getElem? (i := 873) rfl, List.mem_of_getElem? (i := 874) rfl⟩
set_option maxRecDepth 100000 in
theorem lw_p28 : lw_okq (⟨"DroopBoardModel", "reason", "(I)I"⟩, 17) := ⟨⟨by decide +kernel, by decide +kernel⟩, List.mem_of_getElem? (i := 753) rfl, List.mem_of_getElem? (i := 881) rfl, List.mem_of_getElem? (i := 882) rfl⟩
set_option maxRecDepth 100000 in
theorem lw_p29 : lw_okq (⟨"DroopBoardModel", "isAlive", "()Z"⟩, 17) := ⟨⟨by decide +kernel, by decide +kernel⟩, List.mem_of_getElem? (i := 753) rfl, List.mem_of_getElem? (i := 885) rfl, List.mem_of_getElem? (i := 886) rfl⟩
set_option maxRecDepth 100000 in
theorem lw_p30 : lw_okq (⟨"DroopBoardModel", "frequency", "()I"⟩, 17) := ⟨⟨by decide +kernel, by decide +kernel⟩, List.mem_of_getElem? (i := 753) rfl, List.mem_of_getElem? (i := 889) rfl, List.mem_of_getElem? (i := 890) rfl⟩
set_option maxRecDepth 100000 in
theorem lw_p31 : lw_okq (⟨"DroopBoardModel", "load", "()I"⟩, 17) := ⟨⟨by decide +kernel, by decide +kernel⟩, List.mem_of_getElem? (i := 753) rfl, List.mem_of_getElem? (i := 893) rfl, List.mem_of_getElem? (i := 894) rfl⟩
def lw_privs_2 : List (MethodName × Nat) := [(⟨"DroopBoard", "switchFeeder", "(IZ)Z"⟩, 6), (⟨"DroopBoard", "commandSet", "(II)Z"⟩, 6), (⟨"DroopBoardModel", "put", "(III)V"⟩, 17), (⟨"DroopBoardModel", "fails", "(I)I"⟩, 17), (⟨"DroopBoardModel", "of", "(II)I"⟩, 17), (⟨"DroopBoardModel", "save", "()V"⟩, 17), (⟨"DroopBoardModel", "speedNow", "(II)I"⟩, 17), (⟨"DroopBoardModel", "runNow", "(I)I"⟩, 17), (⟨"DroopBoardModel", "rest", "(I)V"⟩, 17), (⟨"DroopBoardModel", "sum", "(I)I"⟩, 17), (⟨"DroopBoardModel", "canHalt", "(I)Z"⟩, 17), (⟨"DroopBoardModel", "haltNow", "(I)I"⟩, 17), (⟨"DroopBoardModel", "reason", "(I)I"⟩, 17), (⟨"DroopBoardModel", "isAlive", "()Z"⟩, 17), (⟨"DroopBoardModel", "frequency", "()I"⟩, 17), (⟨"DroopBoardModel", "load", "()I"⟩, 17)]
theorem lw_r2 : ∀ q ∈ lw_privs_2, lw_okq q := List.forall_mem_cons.mpr ⟨lw_p16, List.forall_mem_cons.mpr ⟨lw_p17, List.forall_mem_cons.mpr ⟨lw_p18, List.forall_mem_cons.mpr ⟨lw_p19, List.forall_mem_cons.mpr ⟨lw_p20, List.forall_mem_cons.mpr ⟨lw_p21, List.forall_mem_cons.mpr ⟨lw_p22, List.forall_mem_cons.mpr ⟨lw_p23, List.forall_mem_cons.mpr ⟨lw_p24, List.forall_mem_cons.mpr ⟨lw_p25, List.forall_mem_cons.mpr ⟨lw_p26, List.forall_mem_cons.mpr ⟨lw_p27, List.forall_mem_cons.mpr ⟨lw_p28, List.forall_mem_cons.mpr ⟨lw_p29, List.forall_mem_cons.mpr ⟨lw_p30, List.forall_mem_cons.mpr ⟨lw_p31, fun _ h => absurd h List.not_mem_nil⟩⟩⟩⟩⟩⟩⟩⟩⟩⟩⟩⟩⟩⟩⟩⟩
set_option maxRecDepth 100000 in
theorem lw_p32 : lw_okq (⟨"DroopBoardModel", "ofLine", "(II)I"⟩, 17) := ⟨⟨by decide +kernel, by decide +kernel⟩, List.mem_of_getElem? (i := 753) rfl, List.mem_of_getElem? (i := 897) rfl, List.mem_of_getElem? (i := 898) rfl⟩
set_option maxRecDepth 100000 in
theorem lw_p33 : lw_okq (⟨"DroopBoardModel", "givenByAll", "(I)I"⟩, 17) := ⟨⟨by decide +kernel, by decide +kernel⟩, List.mem_of_getElem? (i := 753) rfl, List.mem_of_getElem? (i := 901) rfl, List.mem_of_getElem? (i := 902) rfl⟩
set_option maxRecDepth 100000 in
theorem lw_p34 : lw_okq (⟨"DroopBoardModel", "given", "(II)I"⟩, 17) := ⟨⟨by decide +kernel, by decide +kernel⟩, List.mem_of_getElem? (i := 753) rfl, List.mem_of_getElem? (i := 905) rfl, List.mem_of_getElem? (i := 906) rfl⟩
set_option maxRecDepth 100000 in
theorem lw_p35 : lw_okq (⟨"DroopBoardModel", "switchNow", "(II)I"⟩, 17) := ⟨⟨by decide +kernel, by decide +kernel⟩, List.mem_of_getElem? (i := 753) rfl, List.mem_of_getElem? (i := 915) rfl, List.mem_of_getElem? (i := 916) rfl⟩
set_option maxRecDepth 100000 in
theorem lw_p36 : lw_okq (⟨"DroopBoardModel", "feederNow", "(II)I"⟩, 17) := ⟨⟨by decide +kernel, by decide +kernel⟩, List.mem_of_getElem? (i := 753) rfl, List.mem_of_getElem? (i := 934) rfl, List.mem_of_getElem? (i := 935) rfl⟩
set_option maxRecDepth 100000 in
theorem lw_p37 : lw_okq (⟨"DroopBoardModel", "passNow", "(I)I"⟩, 17) := ⟨⟨by decide +kernel, by decide +kernel⟩, List.mem_of_getElem? (i := 753) rfl, List.mem_of_getElem? (i := 942) rfl, List.mem_of_getElem? (i := 943) rfl⟩
set_option maxRecDepth 100000 in
theorem lw_p38 : lw_okq (⟨"DroopBoardModel", "tick", "()I"⟩, 17) := ⟨⟨by decide +kernel, by decide +kernel⟩, List.mem_of_getElem? (i := 753) rfl, List.mem_of_getElem? (i := 946) rfl, List.mem_of_getElem? (i := 947) rfl⟩
set_option maxRecDepth 100000 in
theorem lw_p39 : lw_okq (⟨"DroopBoardModel", "find", "()V"⟩, 17) := ⟨⟨by decide +kernel, by decide +kernel⟩, List.mem_of_getElem? (i := 753) rfl, List.mem_of_getElem? (i := 950) rfl, List.mem_of_getElem? (i := 951) rfl⟩
set_option maxRecDepth 100000 in
theorem lw_p40 : lw_okq (⟨"DroopBoardModel", "watch", "(I)V"⟩, 17) := ⟨⟨by decide +kernel, by decide +kernel⟩, List.mem_of_getElem? (i := 753) rfl, List.mem_of_getElem? (i := 954) rfl, List.mem_of_getElem? (i := 955) rfl⟩
set_option maxRecDepth 100000 in
theorem lw_p41 : lw_okq (⟨"DroopBoardModel", "turn", "(II)V"⟩, 17) := ⟨⟨by decide +kernel, by decide +kernel⟩, List.mem_of_getElem? (i := 753) rfl, List.mem_of_getElem? (i := 958) rfl, List.mem_of_getElem? (i := 959) rfl⟩
set_option maxRecDepth 100000 in
theorem lw_p42 : lw_okq (⟨"DroopBoardModel", "shed", "()V"⟩, 17) := ⟨⟨by decide +kernel, by decide +kernel⟩, List.mem_of_getElem? (i := 753) rfl, List.mem_of_getElem? (i := 962) rfl, List.mem_of_getElem? (i := 963) rfl⟩
set_option maxRecDepth 100000 in
theorem lw_p43 : lw_okq (⟨"DroopBoardModel", "trip", "()I"⟩, 17) := ⟨⟨by decide +kernel, by decide +kernel⟩, List.mem_of_getElem? (i := 753) rfl, List.mem_of_getElem? (i := 966) rfl, List.mem_of_getElem? (i := 967) rfl⟩
set_option maxRecDepth 100000 in
theorem lw_p44 : lw_okq (⟨"DroopBoardModel", "areOrders", "()Z"⟩, 17) := ⟨⟨by decide +kernel, by decide +kernel⟩, List.mem_of_getElem? (i := 753) rfl, List.mem_of_getElem? (i := 989) rfl, List.mem_of_getElem? (i := 990) rfl⟩
set_option maxRecDepth 100000 in
theorem lw_p45 : lw_okq (⟨"DroopBoardModel", "readOrder", "()Z"⟩, 17) := ⟨⟨by decide +kernel, by decide +kernel⟩, List.mem_of_getElem? (i := 753) rfl, List.mem_of_getElem? (i := 993) rfl, List.mem_of_getElem? (i := 994) rfl⟩
set_option maxRecDepth 100000 in
theorem lw_p46 : lw_okq (⟨"DroopBoardModel", "readRest", "(I)Z"⟩, 17) := ⟨⟨by decide +kernel, by decide +kernel⟩, List.mem_of_getElem? (i := 753) rfl, List.mem_of_getElem? (i := 997) rfl, List.mem_of_getElem? (i := 998) rfl⟩
set_option maxRecDepth 100000 in
theorem lw_p47 : lw_okq (⟨"DroopBoardModel", "readTicks", "()Z"⟩, 17) := ⟨⟨by decide +kernel, by decide +kernel⟩, List.mem_of_getElem? (i := 753) rfl, List.mem_of_getElem? (i := 1001) rfl, List.mem_of_getElem? (i := 1002) rfl⟩
def lw_privs_3 : List (MethodName × Nat) := [(⟨"DroopBoardModel", "ofLine", "(II)I"⟩, 17), (⟨"DroopBoardModel", "givenByAll", "(I)I"⟩, 17), (⟨"DroopBoardModel", "given", "(II)I"⟩, 17), (⟨"DroopBoardModel", "switchNow", "(II)I"⟩, 17), (⟨"DroopBoardModel", "feederNow", "(II)I"⟩, 17), (⟨"DroopBoardModel", "passNow", "(I)I"⟩, 17), (⟨"DroopBoardModel", "tick", "()I"⟩, 17), (⟨"DroopBoardModel", "find", "()V"⟩, 17), (⟨"DroopBoardModel", "watch", "(I)V"⟩, 17), (⟨"DroopBoardModel", "turn", "(II)V"⟩, 17), (⟨"DroopBoardModel", "shed", "()V"⟩, 17), (⟨"DroopBoardModel", "trip", "()I"⟩, 17), (⟨"DroopBoardModel", "areOrders", "()Z"⟩, 17), (⟨"DroopBoardModel", "readOrder", "()Z"⟩, 17), (⟨"DroopBoardModel", "readRest", "(I)Z"⟩, 17), (⟨"DroopBoardModel", "readTicks", "()Z"⟩, 17)]
theorem lw_r3 : ∀ q ∈ lw_privs_3, lw_okq q := List.forall_mem_cons.mpr ⟨lw_p32, List.forall_mem_cons.mpr ⟨lw_p33, List.forall_mem_cons.mpr ⟨lw_p34, List.forall_mem_cons.mpr ⟨lw_p35, List.forall_mem_cons.mpr ⟨lw_p36, List.forall_mem_cons.mpr ⟨lw_p37, List.forall_mem_cons.mpr ⟨lw_p38, List.forall_mem_cons.mpr ⟨lw_p39, List.forall_mem_cons.mpr ⟨lw_p40, List.forall_mem_cons.mpr ⟨lw_p41, List.forall_mem_cons.mpr ⟨lw_p42, List.forall_mem_cons.mpr ⟨lw_p43, List.forall_mem_cons.mpr ⟨lw_p44, List.forall_mem_cons.mpr ⟨lw_p45, List.forall_mem_cons.mpr ⟨lw_p46, List.forall_mem_cons.mpr ⟨lw_p47, fun _ h => absurd h List.not_mem_nil⟩⟩⟩⟩⟩⟩⟩⟩⟩⟩⟩⟩⟩⟩⟩⟩
set_option maxRecDepth 100000 in
theorem lw_p48 : lw_okq (⟨"DroopBoardModel", "takes", "(II)Z"⟩, 17) := ⟨⟨by decide +kernel, by decide +kernel⟩, List.mem_of_getElem? (i := 753) rfl, List.mem_of_getElem? (i := 1005) rfl, List.mem_of_getElem? (i := 1006) rfl⟩
set_option maxRecDepth 100000 in
theorem lw_p49 : lw_okq (⟨"DroopBoardModel", "digit", "(I)I"⟩, 17) := ⟨⟨by decide +kernel, by decide +kernel⟩, List.mem_of_getElem? (i := 753) rfl, List.mem_of_getElem? (i := 1009) rfl, List.mem_of_getElem? (i := 1010) rfl⟩
set_option maxRecDepth 100000 in
theorem lw_p50 : lw_okq (⟨"DroopBoardModel", "readSpeed", "()Z"⟩, 17) := ⟨⟨by decide +kernel, by decide +kernel⟩, List.mem_of_getElem? (i := 753) rfl, List.mem_of_getElem? (i := 1013) rfl, List.mem_of_getElem? (i := 1014) rfl⟩
set_option maxRecDepth 100000 in
theorem lw_p51 : lw_okq (⟨"DroopBoardModel", "canDo", "(I)Z"⟩, 17) := ⟨⟨by decide +kernel, by decide +kernel⟩, List.mem_of_getElem? (i := 753) rfl, List.mem_of_getElem? (i := 1021) rfl, List.mem_of_getElem? (i := 1022) rfl⟩
set_option maxRecDepth 100000 in
theorem lw_p52 : lw_okq (⟨"DroopBoardModel", "doOrder", "(I)I"⟩, 17) := ⟨⟨by decide +kernel, by decide +kernel⟩, List.mem_of_getElem? (i := 753) rfl, List.mem_of_getElem? (i := 1025) rfl, List.mem_of_getElem? (i := 1026) rfl⟩
set_option maxRecDepth 100000 in
theorem lw_p53 : lw_okq (⟨"DroopBoardModel", "ofDiesel", "(II)I"⟩, 17) := ⟨⟨by decide +kernel, by decide +kernel⟩, List.mem_of_getElem? (i := 753) rfl, List.mem_of_getElem? (i := 1045) rfl, List.mem_of_getElem? (i := 1046) rfl⟩
set_option maxRecDepth 100000 in
theorem lw_p54 : lw_okq (⟨"DroopBoardModel", "power", "(I)I"⟩, 17) := ⟨⟨by decide +kernel, by decide +kernel⟩, List.mem_of_getElem? (i := 753) rfl, List.mem_of_getElem? (i := 1049) rfl, List.mem_of_getElem? (i := 1050) rfl⟩
set_option maxRecDepth 100000 in
theorem lw_p55 : lw_okq (⟨"DroopBoardModel", "number", "(I)I"⟩, 17) := ⟨⟨by decide +kernel, by decide +kernel⟩, List.mem_of_getElem? (i := 753) rfl, List.mem_of_getElem? (i := 1061) rfl, List.mem_of_getElem? (i := 1062) rfl⟩
set_option maxRecDepth 100000 in
theorem lw_p56 : lw_okq (⟨"DroopBoardModel", "allPowers", "()I"⟩, 17) := ⟨⟨by decide +kernel, by decide +kernel⟩, List.mem_of_getElem? (i := 753) rfl, List.mem_of_getElem? (i := 1065) rfl, List.mem_of_getElem? (i := 1066) rfl⟩
set_option maxRecDepth 100000 in
theorem lw_p57 : lw_okq (⟨"DroopBoardModel", "lacks", "()I"⟩, 17) := ⟨⟨by decide +kernel, by decide +kernel⟩, List.mem_of_getElem? (i := 753) rfl, List.mem_of_getElem? (i := 1069) rfl, List.mem_of_getElem? (i := 1070) rfl⟩
set_option maxRecDepth 100000 in
theorem lw_p58 : lw_okq (⟨"DroopBoardModel", "withSpeed", "(III)I"⟩, 17) := ⟨⟨by decide +kernel, by decide +kernel⟩, List.mem_of_getElem? (i := 753) rfl, List.mem_of_getElem? (i := 1081) rfl, List.mem_of_getElem? (i := 1082) rfl⟩
set_option maxRecDepth 100000 in
theorem lw_p59 : lw_okq (⟨"DroopBoardModel", "closableIn", "(I)I"⟩, 17) := ⟨⟨by decide +kernel, by decide +kernel⟩, List.mem_of_getElem? (i := 753) rfl, List.mem_of_getElem? (i := 1089) rfl, List.mem_of_getElem? (i := 1090) rfl⟩
set_option maxRecDepth 100000 in
theorem lw_p60 : lw_okq (⟨"DroopBoardModel", "putAside", "()V"⟩, 17) := ⟨⟨by decide +kernel, by decide +kernel⟩, List.mem_of_getElem? (i := 753) rfl, List.mem_of_getElem? (i := 1093) rfl, List.mem_of_getElem? (i := 1094) rfl⟩
set_option maxRecDepth 100000 in
theorem lw_p61 : lw_okq (⟨"DroopBoardModel", "putBack", "()V"⟩, 17) := ⟨⟨by decide +kernel, by decide +kernel⟩, List.mem_of_getElem? (i := 753) rfl, List.mem_of_getElem? (i := 1097) rfl, List.mem_of_getElem? (i := 1098) rfl⟩
set_option maxRecDepth 100000 in
theorem lw_p62 : lw_okq (⟨"DroopBoardModel", "fairFor", "(I)I"⟩, 17) := ⟨⟨by decide +kernel, by decide +kernel⟩, List.mem_of_getElem? (i := 753) rfl, List.mem_of_getElem? (i := 1105) rfl, List.mem_of_getElem? (i := 1106) rfl⟩
set_option maxRecDepth 100000 in
theorem lw_p63 : lw_okq (⟨"DroopBoardModel", "ratings", "()I"⟩, 17) := ⟨⟨by decide +kernel, by decide +kernel⟩, List.mem_of_getElem? (i := 753) rfl, List.mem_of_getElem? (i := 1109) rfl, List.mem_of_getElem? (i := 1110) rfl⟩
def lw_privs_4 : List (MethodName × Nat) := [(⟨"DroopBoardModel", "takes", "(II)Z"⟩, 17), (⟨"DroopBoardModel", "digit", "(I)I"⟩, 17), (⟨"DroopBoardModel", "readSpeed", "()Z"⟩, 17), (⟨"DroopBoardModel", "canDo", "(I)Z"⟩, 17), (⟨"DroopBoardModel", "doOrder", "(I)I"⟩, 17), (⟨"DroopBoardModel", "ofDiesel", "(II)I"⟩, 17), (⟨"DroopBoardModel", "power", "(I)I"⟩, 17), (⟨"DroopBoardModel", "number", "(I)I"⟩, 17), (⟨"DroopBoardModel", "allPowers", "()I"⟩, 17), (⟨"DroopBoardModel", "lacks", "()I"⟩, 17), (⟨"DroopBoardModel", "withSpeed", "(III)I"⟩, 17), (⟨"DroopBoardModel", "closableIn", "(I)I"⟩, 17), (⟨"DroopBoardModel", "putAside", "()V"⟩, 17), (⟨"DroopBoardModel", "putBack", "()V"⟩, 17), (⟨"DroopBoardModel", "fairFor", "(I)I"⟩, 17), (⟨"DroopBoardModel", "ratings", "()I"⟩, 17)]
theorem lw_r4 : ∀ q ∈ lw_privs_4, lw_okq q := List.forall_mem_cons.mpr ⟨lw_p48, List.forall_mem_cons.mpr ⟨lw_p49, List.forall_mem_cons.mpr ⟨lw_p50, List.forall_mem_cons.mpr ⟨lw_p51, List.forall_mem_cons.mpr ⟨lw_p52, List.forall_mem_cons.mpr ⟨lw_p53, List.forall_mem_cons.mpr ⟨lw_p54, List.forall_mem_cons.mpr ⟨lw_p55, List.forall_mem_cons.mpr ⟨lw_p56, List.forall_mem_cons.mpr ⟨lw_p57, List.forall_mem_cons.mpr ⟨lw_p58, List.forall_mem_cons.mpr ⟨lw_p59, List.forall_mem_cons.mpr ⟨lw_p60, List.forall_mem_cons.mpr ⟨lw_p61, List.forall_mem_cons.mpr ⟨lw_p62, List.forall_mem_cons.mpr ⟨lw_p63, fun _ h => absurd h List.not_mem_nil⟩⟩⟩⟩⟩⟩⟩⟩⟩⟩⟩⟩⟩⟩⟩⟩
set_option maxRecDepth 100000 in
theorem lw_p64 : lw_okq (⟨"DroopBoardModel", "tripIn", "()I"⟩, 17) := ⟨⟨by decide +kernel, by decide +kernel⟩, List.mem_of_getElem? (i := 753) rfl, List.mem_of_getElem? (i := 1117) rfl, List.mem_of_getElem? (i := 1118) rfl⟩
set_option maxRecDepth 100000 in
theorem lw_p65 : lw_okq (⟨"DroopBoardModel", "share", "()D"⟩, 17) := ⟨⟨by decide +kernel, by decide +kernel⟩, List.mem_of_getElem? (i := 753) rfl, List.mem_of_getElem? (i := 1125) rfl, List.mem_of_getElem? (i := 1126) rfl⟩
set_option maxRecDepth 100000 in
theorem lw_p66 : lw_okq (⟨"DroopBoardModel", "mean", "()F"⟩, 17) := ⟨⟨by decide +kernel, by decide +kernel⟩, List.mem_of_getElem? (i := 753) rfl, List.mem_of_getElem? (i := 1133) rfl, List.mem_of_getElem? (i := 1134) rfl⟩
set_option maxRecDepth 100000 in
theorem lw_p67 : lw_okq (⟨"DroopBoardModel", "mix", "(J)V"⟩, 17) := ⟨⟨by decide +kernel, by decide +kernel⟩, List.mem_of_getElem? (i := 753) rfl, List.mem_of_getElem? (i := 1142) rfl, List.mem_of_getElem? (i := 1143) rfl⟩
set_option maxRecDepth 100000 in
theorem lw_p68 : lw_okq (⟨"DroopBoardModel", "mixSet", "(I)V"⟩, 17) := ⟨⟨by decide +kernel, by decide +kernel⟩, List.mem_of_getElem? (i := 753) rfl, List.mem_of_getElem? (i := 1147) rfl, List.mem_of_getElem? (i := 1148) rfl⟩
def lw_privs_5 : List (MethodName × Nat) := [(⟨"DroopBoardModel", "tripIn", "()I"⟩, 17), (⟨"DroopBoardModel", "share", "()D"⟩, 17), (⟨"DroopBoardModel", "mean", "()F"⟩, 17), (⟨"DroopBoardModel", "mix", "(J)V"⟩, 17), (⟨"DroopBoardModel", "mixSet", "(I)V"⟩, 17)]
theorem lw_r5 : ∀ q ∈ lw_privs_5, lw_okq q := List.forall_mem_cons.mpr ⟨lw_p64, List.forall_mem_cons.mpr ⟨lw_p65, List.forall_mem_cons.mpr ⟨lw_p66, List.forall_mem_cons.mpr ⟨lw_p67, List.forall_mem_cons.mpr ⟨lw_p68, fun _ h => absurd h List.not_mem_nil⟩⟩⟩⟩⟩
def lw_privs : List (MethodName × Nat) := lw_privs_1 ++ (lw_privs_2 ++ (lw_privs_3 ++ (lw_privs_4 ++ (lw_privs_5))))
def lw_tbl : List Cond := k2_sels lw_privs ++ tables_1
theorem lw_privs_ok : ∀ q ∈ lw_privs, lw_okq q := by
  show ∀ q ∈ lw_privs_1 ++ (lw_privs_2 ++ (lw_privs_3 ++ (lw_privs_4 ++ (lw_privs_5)))), lw_okq q
  exact List.forall_mem_append.mpr ⟨lw_r1, List.forall_mem_append.mpr ⟨lw_r2, List.forall_mem_append.mpr ⟨lw_r3, List.forall_mem_append.mpr ⟨lw_r4, lw_r5⟩⟩⟩⟩
/-- the streams that the claim lets the run draw from -/
abbrev lw_cs : List Choice := [Jvm.Choice.named "NaN.bits"]
theorem lw_bits : nanBits ∈ lw_cs := by first | decide | exact List.mem_cons_self | simp [lw_cs, nanBits]
-- ===== end of PART A; then your names; then what follows =====
/-! ===== BEGIN words of one list among another's, by their places ===== -/
theorem goodIn_r {big : List Cond} (ws : List Cond) (ps : List Nat) (hp : ws = ps.filterMap (fun i => big[i]?)) (h : ws.all goodWord = true) : GoodIn big ws := by
  intro w hw
  have h1 := List.all_eq_true.mp h w hw
  rw [hp] at hw
  obtain ⟨i, -, hi⟩ := List.mem_filterMap.mp hw
  have hm : w ∈ big := by first | exact List.mem_of_getElem? hi | exact List.getElem?_mem hi
  exact ⟨hm, good_of_word h1⟩
theorem goodIn_app {big a b : List Cond} (ha : GoodIn big a) (hb : GoodIn big b) : GoodIn big (a ++ b) := fun w h => (List.mem_append.mp h).elim (ha w) (hb w)
theorem goodIn_ca {big a b : List Cond} {c : Cond} (ha : GoodIn big (c :: a)) (hb : GoodIn big b) : GoodIn big (c :: (a ++ b)) := fun w h => (List.mem_cons.mp h).elim (fun e => ha w (List.mem_cons.mpr (Or.inl e))) (fun h => (List.mem_append.mp h).elim (fun h => ha w (List.mem_cons.mpr (Or.inr h))) (hb w))
theorem goodIn_sub {big ws : List Cond} (hm : ∀ w ∈ ws, w ∈ big) (h : ws.all goodWord = true) : GoodIn big ws := fun w hw => ⟨hm w hw, good_of_word (List.all_eq_true.mp h w hw)⟩
/-! ===== END ===== -/

/-! ===== BEGIN exceptions that leave a method, and their catching by the caller (launches without stack traces) ===== -/
section VXA
/-! The laws vx_back, vx_callV, vx_callS, vx_callSW, vx_throw0, vx_throwS follow proofs of the library, with one case more: JvmDerived/Free/Laws.lean (Back.of_free), Shelf42/LK1.lean (callV, callS), Shelf/KitTraced.lean (throwNew0V, throwNewS). -/
/-- where a method has thrown q: the class by its name, the cell, what was written, the world -/
def vx_T (XC : String → State → State → Prop) (st : State) (q : Addr) (t : State) (mc ms : Nat) (free : Addr → Prop) : Prop :=
  ∃ (E : String) (ce : Cell) (L : List Loc), XC E st t ∧ t.heap[q]? = some ce ∧ ce.vm = .none ∧ st.vm.findClass E = some ce.cls ∧ st.WarmedH t.vm ∧ st.sameButNew ({ t with vm := st.vm } : State) L mc ms ∧ ∀ z ∈ L, free z.base
def vx_Q (Qc : Array Value → State → Outcome → State → Prop) (XC : String → State → State → Prop) (mc ms : Nat) (free : Addr → Prop) : Array Value → State → Outcome → State → Prop := fun a st o t =>
  (Qc a st o t ∧ ∃ L, FrameEnd st o t L mc ms ∧ ∀ q ∈ L, free q.base) ∨ ∃ q, o = .threw q ∧ vx_T XC st q t mc ms free
/-- a callee that returns or throws -/
def vx_Met (l : Launch) (y : MethodName) (ws : List Cond) (rm : Room) (Pc : Array Value → State → Prop) (Qc : Array Value → State → Outcome → State → Prop) (XC : String → State → State → Prop) (mc ms : Nat) (free : Addr → Prop) : Prop :=
  MetFree l y (headSpec ws rm) Pc (fun _ _ _ _ _ => True) (vx_Q Qc XC mc ms free)
def vx_Post (XC : String → State → State → Prop) (mc ms : Nat) (free : Addr → Prop) : Pt → Array Value → Addr → Pt → Prop := fun A a q B =>
  ∃ (g : JFrame) (mk : MethodId) (t : State) (L : List Loc) (E : String) (ce : Cell), B.U.heap = t.heap ∧ B.U.vm = t.vm ∧ XC E (A.U.calling g mk a) t ∧ t.heap[q]? = some ce ∧ ce.vm = .none ∧ A.U.vm.findClass E = some ce.cls ∧ B.locs = A.locs ++ L ∧ (∀ z ∈ L, free z.base) ∧ B.cells = A.cells + mc ∧ B.slots = A.slots + ms
def vx_Back (l : Launch) (R : Room) (p : Program) (e : Env) (below : List Frame) (s : State) (sargs : Array Value) (y : MethodName) (len W9 : Nat)
    (Pre : Pt → Array Value → Prop) (Post : Pt → Array Value → Option Value → Pt → Prop) (PostX : Pt → Array Value → Addr → Pt → Prop) : Prop :=
  ∀ (m : MethodId) (meth : Method) (c : Code) (A : Pt) (g : JFrame) (ig : Instr) (mk : MethodId) (a : Array Value),
    Stand p l e R s m sargs below meth c A.U A.locs A.cells A.slots → g.method = m → g.locals.size = c.maxLocals → decode c.code g.pc = .ok (ig, len) →
    2 * g.monitorRoom + (g.stack.map fun v => v.category).sum ≤ W9 → A.U.methodNamed? y = some mk → Pre A a →
    (∃ (v : Option Value) (B : Pt), Stand p l e R s m sargs below meth c B.U B.locs B.cells B.slots ∧ Post A a v B ∧
      Steps p.tables e below (doInvoke e (A.U.setTop g) [] mk a).1 (B.U.setTop { g with pc := g.pc + len, stack := v.toList ++ g.stack })) ∨
    (∃ (q : Addr) (B : Pt), Stand p l e R s m sargs below meth c B.U B.locs B.cells B.slots ∧ PostX A a q B ∧
      Steps p.tables e below (doInvoke e (A.U.setTop g) [] mk a).1 ((B.U.setTop g).pushFrame (.throwing q)))
section Payer
variable {l : Launch} {R : Room} {p : Program} {e : Env} {below : List Frame} {s : State} {sargs : Array Value} {y : MethodName} {len W9 : Nat}
theorem vx_back {ws : List Cond} {rm : Room} {Pc : Array Value → State → Prop} {Qc : Array Value → State → Outcome → State → Prop} {XC : String → State → State → Prop} {mc ms : Nat} {free : Addr → Prop} {bytes : ByteArray} {maxL : Nat} {ret : Option FieldType}
    (hM : vx_Met l y ws rm Pc Qc XC mc ms free) (hblind : FrameBlind Pc) (hrc : rm.cells = mc) (hrs : rm.slots = ms)
    (hframes : rm.frames + 1 ≤ R.frames) (hlocals : W9 + (maxL + 11) + rm.locals ≤ R.locals)
    (hws : ∀ w ∈ ws, ∀ a' U, s.WarmedH U.vm → w.before a' U = true) (hcode : Cond.code y bytes maxL ret ∈ ws) (hinit : ∀ a' U, s.WarmedH U.vm → (Cond.initialized y.cls).before a' U = true) :
    vx_Back l R p e below s sargs y len W9 (PreOf R mc ms Pc) (PostOf Qc mc ms free) (vx_Post XC mc ms free) := by
  intro m meth c A g ig mk a X hg hsize hdg hW hn hp
  have h1 : (headSpec ws rm).pre.before a A.U = true := atoms_intro fun w hw => hws w hw _ _ X.warmed
  have h2 : (Cond.code y bytes maxL ret).before a A.U = true := hws _ hcode _ _ X.warmed
  have h3 : (Cond.initialized y.cls).before a A.U = true := hinit _ _ X.warmed
  have h4 : A.cells + (headSpec ws rm).room.cells ≤ R.cells := by rw [show (headSpec ws rm).room.cells = mc from hrc]; exact hp.1
  have h5 : A.slots + (headSpec ws rm).room.slots ≤ R.slots := by rw [show (headSpec ws rm).room.slots = ms from hrs]; exact hp.2.1
  have hPc : Pc a (A.U.calling g mk a) := hblind _ _ _ _ hp.2.2
  obtain ⟨U, Ls, c0, s0⟩ := A
  dsimp only [Pt.U, Pt.locs, Pt.cells, Pt.slots] at h1 h2 h3 h4 h5 X hn hPc ⊢
  obtain ⟨methY, cY, hmY, hcY, -, hlY, -, -, -, -⟩ := Cond.code_spec hn h2
  obtain ⟨kY, hkY, -⟩ := className_of_methodNamed hn
  have hinitY : kY.init = .initialized := Cond.initialized_spec (findClass_of_methodNamed hn) hkY h3
  have h : At U g.method c below := by rw [hg]; exact X.here
  have hlocals9 : W9 + (maxL + 11) + (headSpec ws rm).room.locals ≤ R.locals := hlocals
  have happ : (headSpec ws rm).appliesLoose y e.platform (U.calling g mk a) = true :=
    Spec.appliesLoose_calling (g := g) h hdg hn hkY hinitY
      (X.room_calling (g := g) (R' := (headSpec ws rm).room) hsize hmY hcY hframes (by rw [hlY]; omega) h4 h5) h1
  obtain ⟨mid, hmid⟩ := h.above
  have hfr : (U.setTop g).frames = (.java g :: mid) ++ below := by rw [State.frames_setTop' g h.top, hmid]; rfl
  obtain ⟨o, s₂, hsteps, -, hend, hq⟩ := Steps.callFree hM p X.admits X.cas X.clock (acts := []) hfr happ hPc trivial
  have hq' : vx_Q Qc XC mc ms free a (U.calling g mk a) o s₂ := hq
  rw [State.frames_setTop' g h.top] at hend
  obtain ⟨g₀, hg0⟩ := Option.isSome_iff_exists.mp h.top
  obtain ⟨r, hr⟩ := State.topJava?_eq_some.mp hg0
  have hr' : (({ U with heap := s₂.heap, slotsUsed := s₂.slotsUsed } : State).setVm s₂.vm).frames = .java g₀ :: r := hr
  rcases hq' with ⟨hqc, L, hfe, hL⟩ | ⟨q, rfl, E, ce, L, hx, hce, hcv, hcl, hW₂, hsm, hL⟩
  · obtain ⟨⟨v, rfl⟩, hW₂, e2, q2, q3, q4, q5, q6⟩ := id hfe
    have e3 : s₂ = ({ (U.calling g mk a).setFrames s₂.frames with heap := s₂.heap, slotsUsed := s₂.slotsUsed } : State).setVm s₂.vm := by
      have : s₂ = ({ s₂ with vm := (U.calling g mk a).vm } : State).setVm s₂.vm := rfl
      rw [e2] at this
      exact this
    obtain ⟨c₂, i₂, len₂, hc₂, hd₂, hf₂⟩ := hend
    have hW' : U.WarmedH s₂.vm := hW₂
    have hcc : c₂ = c := by
      have h1 : s₂.code? g.method = U.code? g.method := by
        rw [State.code?_eq, State.code?_eq, hW'.alike.method?]
      exact Option.some.inj (hc₂.symm.trans (h1.trans h.code))
    subst hcc
    have hlen : len₂ = len := by rw [hdg] at hd₂; cases hd₂; rfl
    subst hlen
    have hs₂ : s₂ = (({ U with heap := s₂.heap, slotsUsed := s₂.slotsUsed } : State).setVm s₂.vm).setTop { g with pc := g.pc + len₂, stack := v.toList ++ g.stack } := by
      refine e3.trans ?_
      rw [hf₂, State.calling_eq h.top, State.setFrames_setFrames, State.setTop_of_frames _ hr', hr]
      rfl
    have hsame : U.sameButNew ({ U with heap := s₂.heap, slotsUsed := s₂.slotsUsed } : State) L mc ms := by
      refine ⟨?_, q2, q3, q4, q5, q6⟩
      obtain ⟨t, ht, -⟩ := State.frames_cons hr
      show ({ U with heap := s₂.heap, slotsUsed := s₂.slotsUsed } : State) = { U.setFrames U.frames with heap := s₂.heap, slotsUsed := s₂.slotsUsed }
      rw [State.setFrames_self ht]
    subst hg
    refine Or.inl ⟨v, ⟨(({ U with heap := s₂.heap, slotsUsed := s₂.slotsUsed } : State).setVm s₂.vm), Ls ++ L, c0 + mc, s0 + ms⟩,
      ⟨X.admits, X.cas, X.clock, X.frames, X.room, X.hears, X.method, X.code, (X.here.setHeapUsed s₂.heap s₂.slotsUsed).setVm hW'.alike, X.tail, State.WarmedH.trans X.warmed hW', X.limits, X.bytes, X.same.trans (hsame.setVm s.vm)⟩,
      ⟨g, mk, s₂, L, rfl, rfl, hqc, rfl, hL, rfl, rfl⟩, ?_⟩
    show Steps p.tables e below _ ((({ U with heap := s₂.heap, slotsUsed := s₂.slotsUsed } : State).setVm s₂.vm).setTop { g with pc := g.pc + len₂, stack := v.toList ++ g.stack })
    rw [← hs₂]
    exact hsteps
  · obtain ⟨e2, q2, q3, q4, q5, q6⟩ := id hsm
    have e3 : s₂ = ({ (U.calling g mk a).setFrames s₂.frames with heap := s₂.heap, slotsUsed := s₂.slotsUsed } : State).setVm s₂.vm := by
      have : s₂ = ({ s₂ with vm := (U.calling g mk a).vm } : State).setVm s₂.vm := rfl
      rw [e2] at this
      exact this
    have hf₂ : s₂.frames = .throwing q :: .java g :: U.frames.tail := hend
    have hW' : U.WarmedH s₂.vm := hW₂
    have hs₂ : s₂ = ((({ U with heap := s₂.heap, slotsUsed := s₂.slotsUsed } : State).setVm s₂.vm).setTop g).pushFrame (.throwing q) := by
      refine e3.trans ?_
      rw [hf₂, State.calling_eq h.top, State.setFrames_setFrames, State.pushFrame, State.frames_setTop _ hr', State.setTop_of_frames _ hr', State.setFrames_setFrames, hr]
      rfl
    have hsame : U.sameButNew ({ U with heap := s₂.heap, slotsUsed := s₂.slotsUsed } : State) L mc ms := by
      refine ⟨?_, q2, q3, q4, q5, q6⟩
      obtain ⟨t, ht, -⟩ := State.frames_cons hr
      show ({ U with heap := s₂.heap, slotsUsed := s₂.slotsUsed } : State) = { U.setFrames U.frames with heap := s₂.heap, slotsUsed := s₂.slotsUsed }
      rw [State.setFrames_self ht]
    subst hg
    refine Or.inr ⟨q, ⟨(({ U with heap := s₂.heap, slotsUsed := s₂.slotsUsed } : State).setVm s₂.vm), Ls ++ L, c0 + mc, s0 + ms⟩,
      ⟨X.admits, X.cas, X.clock, X.frames, X.room, X.hears, X.method, X.code, (X.here.setHeapUsed s₂.heap s₂.slotsUsed).setVm hW'.alike, X.tail, State.WarmedH.trans X.warmed hW', X.limits, X.bytes, X.same.trans (hsame.setVm s.vm)⟩,
      ⟨g, mk, s₂, L, E, ce, rfl, rfl, hx, hce, hcv, hcl, rfl, hL, rfl, rfl⟩, ?_⟩
    show Steps p.tables e below _ (((({ U with heap := s₂.heap, slotsUsed := s₂.slotsUsed } : State).setVm s₂.vm).setTop g).pushFrame (.throwing q))
    rw [← hs₂]
    exact hsteps
end Payer
section Calls
variable {p : Program} {l : Launch} {e : Env} {R : Room} {s : State} {m : MethodId} {args : Array Value} {below : List Frame} {meth : Method} {c : Code} {T : State} {locs : List Loc} {cells slots : Nat}
theorem vx_callV (X : Stand p l e R s m args below meth c T locs cells slots) (hexec : p.tables.exec = Jvm.exec) {own C : String} {index : Nat} {y : MethodName} {bytes : ByteArray} {maxL : Nat} {ret : Option FieldType}
    (hown : s.vm.findClass own = some m.cls) (hlink : (Cond.methodLink own index y).before args s = true) (hinst : (Cond.instanceMethod y).before args s = true) (hsel : (Cond.selects C y y).before args s = true)
    (hcode : (Cond.code y bytes maxL ret).before args s = true) (hy : y.cls ≠ "java/lang/invoke/MethodHandle" ∧ y.cls ≠ "java/lang/invoke/VarHandle")
    {W9 : Nat} {Pre : Pt → Array Value → Prop} {Post : Pt → Array Value → Option Value → Pt → Prop} {PostX : Pt → Array Value → Addr → Pt → Prop} (hK : vx_Back l R p e below s args y 3 W9 Pre Post PostX)
    {b : Addr} {cellB : Cell} (hcell : T.heap[b]? = some cellB) (hobj : cellB.vm.isStatics = false) (hcls : s.vm.findClass C = some cellB.cls)
    {g : JFrame} (hg : g.method = m) (hsize : g.locals.size = c.maxLocals) {argsL rest : List Value} (hlen : ∀ sig, parseMethodDescriptor y.desc = some sig → argsL.length = sig.parameters.length)
    (hstack : g.stack = argsL.reverse ++ .ref b :: rest) (hW : 2 * g.monitorRoom + (rest.map fun v => v.category).sum ≤ W9) (hdg : decode c.code g.pc = .ok (.invokevirtual index, 3))
    (hpre : ∀ vm₁, s.WarmedH vm₁ → Pre ⟨T.setVm vm₁, locs, cells, slots⟩ (Value.ref b :: argsL).toArray) :
    (∃ (v : Option Value) (vm₁ : Vm) (B : Pt), s.WarmedH vm₁ ∧ Stand p l e R s m args below meth c B.U B.locs B.cells B.slots ∧ Post ⟨T.setVm vm₁, locs, cells, slots⟩ (Value.ref b :: argsL).toArray v B ∧
      ∀ target, Steps p.tables e below (B.U.setTop { g with pc := g.pc + 3, stack := v.toList ++ rest }) target → Steps p.tables e below (T.setTop g) target) ∨
    (∃ (q : Addr) (vm₁ : Vm) (B : Pt), s.WarmedH vm₁ ∧ Stand p l e R s m args below meth c B.U B.locs B.cells B.slots ∧ PostX ⟨T.setVm vm₁, locs, cells, slots⟩ (Value.ref b :: argsL).toArray q B ∧
      Steps p.tables e below (T.setTop g) ((B.U.setTop { g with stack := rest }).pushFrame (.throwing q))) := by
  obtain ⟨mk, methM, hnamed, hmethM, hstM, habM⟩ := Cond.instanceMethod_spec hinst
  obtain ⟨methM', cM, hmethM', -, -, -, -, -, -, hsigM⟩ := Cond.code_spec hnamed hcode
  cases hmethM.symm.trans hmethM'
  obtain ⟨c2, r2, m2, q1, q2, q3, q4, kP, hkP, hkPi⟩ := Cond.selects_spec hsel
  cases hcls.symm.trans q1
  cases (State.methodFound?_of_named hnamed hy).symm.trans q2
  cases hnamed.symm.trans q3
  have hselP : selectMethod e.platform s.vm cellB.cls mk = .method mk := by rw [Launch.admits_selectMethod X.admits]; exact q4
  obtain ⟨vm₁, X₁, hstep₁⟩ := X.invokevirtual hexec hown hlink hnamed hmethM hstM hkP hkPi hy (a := b) (cell := cellB) hcell
    (fun z h => by rw [h] at hobj; cases hobj) hselP hmethM habM hkP hkPi (g := g) hg (argsL := argsL) (rest := rest) (hlen _ hsigM) hstack hdg
  rcases hK m meth c ⟨T.setVm vm₁, locs, cells, slots⟩ { g with stack := rest } (.invokevirtual index) mk (Value.ref b :: argsL).toArray X₁ hg hsize hdg hW (X₁.named hnamed) (hpre vm₁ X₁.warmed) with ⟨v, B, X', hpost, hsteps⟩ | ⟨q, B, X', hpost, hsteps⟩
  · exact Or.inl ⟨v, vm₁, B, X₁.warmed, X', hpost, fun target h => hstep₁ _ fun acts => by rw [doInvoke_state]; exact hsteps.trans h⟩
  · exact Or.inr ⟨q, vm₁, B, X₁.warmed, X', hpost, hstep₁ _ fun acts => by rw [doInvoke_state]; exact hsteps⟩
theorem vx_callS (X : Stand p l e R s m args below meth c T locs cells slots) (hexec : p.tables.exec = Jvm.exec) {own : String} {index : Nat} {y : MethodName} {bytes : ByteArray} {maxL : Nat} {ret : Option FieldType}
    (hown : s.vm.findClass own = some m.cls) (hlink : (Cond.methodLink own index y).before args s = true) (hstat : (Cond.static y).before args s = true) (hinit : (Cond.initialized y.cls).before args s = true)
    (hcode : (Cond.code y bytes maxL ret).before args s = true) (hy : y.cls ≠ "java/lang/invoke/MethodHandle" ∧ y.cls ≠ "java/lang/invoke/VarHandle")
    {W9 : Nat} {Pre : Pt → Array Value → Prop} {Post : Pt → Array Value → Option Value → Pt → Prop} {PostX : Pt → Array Value → Addr → Pt → Prop} (hK : vx_Back l R p e below s args y 3 W9 Pre Post PostX)
    {g : JFrame} (hg : g.method = m) (hsize : g.locals.size = c.maxLocals) {argsL rest : List Value} (hlen : ∀ sig, parseMethodDescriptor y.desc = some sig → argsL.length = sig.parameters.length)
    (hstack : g.stack = argsL.reverse ++ rest) (hW : 2 * g.monitorRoom + (rest.map fun v => v.category).sum ≤ W9) (hdg : decode c.code g.pc = .ok (.invokestatic index, 3))
    (hpre : ∀ vm₁, s.WarmedH vm₁ → Pre ⟨T.setVm vm₁, locs, cells, slots⟩ argsL.toArray) :
    (∃ (v : Option Value) (vm₁ : Vm) (B : Pt), s.WarmedH vm₁ ∧ Stand p l e R s m args below meth c B.U B.locs B.cells B.slots ∧ Post ⟨T.setVm vm₁, locs, cells, slots⟩ argsL.toArray v B ∧
      ∀ target, Steps p.tables e below (B.U.setTop { g with pc := g.pc + 3, stack := v.toList ++ rest }) target → Steps p.tables e below (T.setTop g) target) ∨
    (∃ (q : Addr) (vm₁ : Vm) (B : Pt), s.WarmedH vm₁ ∧ Stand p l e R s m args below meth c B.U B.locs B.cells B.slots ∧ PostX ⟨T.setVm vm₁, locs, cells, slots⟩ argsL.toArray q B ∧
      Steps p.tables e below (T.setTop g) ((B.U.setTop { g with stack := rest }).pushFrame (.throwing q))) := by
  obtain ⟨mk, hnamed⟩ := Cond.code_named hcode
  obtain ⟨methM, cM, hmethM, -, -, -, -, -, -, hsigM⟩ := Cond.code_spec hnamed hcode
  have hstatic : methM.isStatic = true := Cond.static_spec hnamed hmethM hstat
  obtain ⟨kP, hkP, -⟩ := className_of_methodNamed hnamed
  have hinitP : kP.init = .initialized := Cond.initialized_spec (findClass_of_methodNamed hnamed) hkP hinit
  obtain ⟨vm₁, X₁, hstep₁⟩ := X.invokestatic hexec hown hlink hnamed hmethM hstatic hkP hinitP hy (g := g) hg (argsL := argsL) (rest := rest) (hlen _ hsigM) hstack hdg
  rcases hK m meth c ⟨T.setVm vm₁, locs, cells, slots⟩ { g with stack := rest } (.invokestatic index) mk argsL.toArray X₁ hg hsize hdg hW (X₁.named hnamed) (hpre vm₁ X₁.warmed) with ⟨v, B, X', hpost, hsteps⟩ | ⟨q, B, X', hpost, hsteps⟩
  · exact Or.inl ⟨v, vm₁, B, X₁.warmed, X', hpost, fun target h => hstep₁ _ fun acts => by rw [doInvoke_state]; exact hsteps.trans h⟩
  · exact Or.inr ⟨q, vm₁, B, X₁.warmed, X', hpost, hstep₁ _ fun acts => by rw [doInvoke_state]; exact hsteps⟩
end Calls
theorem vx_cls {s : State} {T : State} {vm₁ : Vm} {E : String} {k : ClassId} (hW : s.WarmedH vm₁) (h : (T.setVm vm₁).vm.findClass E = some k) : s.vm.findClass E = some k := by
  have h1 : vm₁.findClass E = some k := h
  rw [hW.alike.findClass] at h1
  exact h1
/-- the method's frame g, with q thrown over it -/
def vx_W (p : Program) (l : Launch) (e : Env) (R : Room) (s : State) (m : MethodId) (args : Array Value) (below : List Frame) (meth : Method) (c : Code) (H : Heap) (locs : List Loc) (cells slots : Nat) (Q : State → Prop) (g : JFrame) (q : Addr) : Prop :=
  ∀ T : State, T.heap = H → Stand p l e R s m args below meth c T locs cells slots → ∃ t, Steps p.tables e below ((T.setTop g).pushFrame (.throwing q)) t ∧ Q t
def vx_Run (p : Program) (l : Launch) (e : Env) (R : Room) (s : State) (m : MethodId) (args : Array Value) (below : List Frame) (meth : Method) (c : Code) (H : Heap) (locs : List Loc) (cells slots mc ms : Nat) (g : JFrame) (rest : List Value) (Qa : State → Outcome → State → Prop) (XC : String → State → State → Prop) (free : Addr → Prop) : Prop :=
  ∀ T : State, T.heap = H → Stand p l e R s m args below meth c T locs cells slots →
    (∃ (v : Option Value) (st₀ t T' : State) (L : List Loc), st₀.heap = H ∧ Stand p l e R s m args below meth c T' (locs ++ L) (cells + mc) (slots + ms) ∧ (∀ q ∈ L, free q.base) ∧ T'.heap = t.heap ∧ T'.vm = t.vm ∧ Qa st₀ (.returned v) t ∧
      Goes p e below T g T' { g with pc := g.pc + 3, stack := v.toList ++ rest }) ∨
    (∃ (q : Addr) (st₀ t T' : State) (L : List Loc) (E : String) (ce : Cell), st₀.heap = H ∧ Stand p l e R s m args below meth c T' (locs ++ L) (cells + mc) (slots + ms) ∧ (∀ z ∈ L, free z.base) ∧ T'.heap = t.heap ∧ T'.vm = t.vm ∧ XC E st₀ t ∧ t.heap[q]? = some ce ∧ ce.vm = .none ∧ s.vm.findClass E = some ce.cls ∧
      Steps p.tables e below (T.setTop g) ((T'.setTop { g with stack := rest }).pushFrame (.throwing q)))
def vx_X {S : Type} (px : S → Prop) (B : String → S → State → Prop) (A : Nat → Prop) : String → State → State → Prop := fun E st t => ∃ u : S, px u ∧ B E u t ∧ va_F A st t
section Runs
variable {p : Program} {l : Launch} {e : Env} {R : Room} {s : State} {m : MethodId} {args : Array Value} {below : List Frame} {meth : Method} {c : Code} {H : Heap} {locs : List Loc} {cells slots : Nat}
variable {y : MethodName} {bytes cc : ByteArray} {maxL nL mc ms n index : Nat} {ret : Option FieldType} {ws : List Cond} {rm : Room} {Pc : Array Value → State → Prop} {Qc : Array Value → State → Outcome → State → Prop} {XC : String → State → State → Prop} {free : Addr → Prop} {Ts : List Cond} {own C : String} {b : Addr} {As rest : List Value} {g : JFrame}
theorem vx_callBack (cb : CallB R s args own index y bytes maxL ret ws rm mc ms n) (hM : vx_Met l y ws rm Pc Qc XC mc ms free) (hbl : FrameBlind Pc) : vx_Back l R p e below s args y 3 8 (PreOf R mc ms Pc) (PostOf Qc mc ms free) (vx_Post XC mc ms free) := by
  obtain ⟨hrc, hrs, hfr, hlo, hws, hcw, -, hini, -⟩ := cb
  exact vx_back (bytes := bytes) (maxL := maxL) (ret := ret) hM hbl hrc hrs hfr hlo hws hcw (fun a' U hW => word_at hW (Or.inl (by first | rfl | simp [Cond.onTables, Cond.keeps, Cond.steady])) hini)
theorem vx_runV (S : CallFix p m c cc nL s args Ts own) (hM : vx_Met l y ws rm Pc Qc XC mc ms free) (cw : CallW R s args own C index y bytes maxL ret ws rm mc ms n) (hp : PreV s H C b Pc As)
    (hg : g.method = m) (hn : As.length = n) (hsize : g.locals.size = nL) (hstack : g.stack = As.reverse ++ .ref b :: rest) (hW : 2 * g.monitorRoom + (rest.map fun v => v.category).sum ≤ 8) (hdg : decode cc g.pc = .ok (.invokevirtual index, 3)) (hf : cells + mc ≤ R.cells ∧ slots + ms ≤ R.slots) :
    vx_Run p l e R s m args below meth c H locs cells slots mc ms g rest (Qc (Value.ref b :: As).toArray) XC free := by
  have hK : vx_Back l R p e below s args y 3 8 (PreOf R mc ms Pc) (PostOf Qc mc ms free) (vx_Post XC mc ms free) := vx_callBack cw.1 hM hp.1
  obtain ⟨⟨-, -, -, -, -, -, hcode, -, hy, hlen, hl⟩, hin, hse⟩ := cw
  obtain ⟨hx, hb, hml, ho, -⟩ := S
  obtain ⟨-, ⟨cellB, hcB, hoB, hclB⟩, hPc⟩ := hp
  intro T hT X
  rcases vx_callV X hx (C := C) (bytes := bytes) (maxL := maxL) (ret := ret) ho hl hin hse hcode hy hK (by rw [hT]; exact hcB) hoB hclB hg (hsize.trans hml.symm) (argsL := As) (rest := rest) (fun sig h => hn.trans (hlen sig h)) hstack hW (by rw [hb]; exact hdg)
    (fun vm₁ hW₁ => ⟨hf.1, hf.2, hPc (T.setVm vm₁) hT hW₁⟩) with ⟨v, vm₁, ⟨U', l2, c2, s2⟩, hW₁, X', ⟨g', mk, t, L, e1, e2, hq, h1, hL, h2, h3⟩, st⟩ | ⟨q, vm₁, ⟨U', l2, c2, s2⟩, hW₁, X', ⟨g', mk, t, L, E, ce, e1, e2, hq, hce, hcv, hcl, h1, hL, h2, h3⟩, st⟩
  · dsimp only [Pt.U, Pt.locs, Pt.cells, Pt.slots] at X' e1 e2 h1 h2 h3 st
    subst h1; subst h2; subst h3
    exact Or.inl ⟨v, (T.setVm vm₁).calling g' mk (Value.ref b :: As).toArray, t, U', L, hT, X', hL, e1, e2, hq, st⟩
  · dsimp only [Pt.U, Pt.locs, Pt.cells, Pt.slots] at X' e1 e2 h1 h2 h3 st hcl
    subst h1; subst h2; subst h3
    exact Or.inr ⟨q, (T.setVm vm₁).calling g' mk (Value.ref b :: As).toArray, t, U', L, E, ce, hT, X', hL, e1, e2, hq, hce, hcv, vx_cls hW₁ hcl, st⟩
theorem vx_runS (S : CallFix p m c cc nL s args Ts own) (hM : vx_Met l y ws rm Pc Qc XC mc ms free) (cw : CallB R s args own index y bytes maxL ret ws rm mc ms n ∧ (Cond.static y).before args s = true) (hp : PreS s H Pc As)
    (hg : g.method = m) (hn : As.length = n) (hsize : g.locals.size = nL) (hstack : g.stack = As.reverse ++ rest) (hW : 2 * g.monitorRoom + (rest.map fun v => v.category).sum ≤ 8) (hdg : decode cc g.pc = .ok (.invokestatic index, 3)) (hf : cells + mc ≤ R.cells ∧ slots + ms ≤ R.slots) :
    vx_Run p l e R s m args below meth c H locs cells slots mc ms g rest (Qc As.toArray) XC free := by
  have hK : vx_Back l R p e below s args y 3 8 (PreOf R mc ms Pc) (PostOf Qc mc ms free) (vx_Post XC mc ms free) := vx_callBack cw.1 hM hp.1
  obtain ⟨⟨-, -, -, -, -, -, hcode, hini, hy, hlen, hl⟩, hstt⟩ := cw
  obtain ⟨hx, hb, hml, ho, -⟩ := S
  intro T hT X
  rcases vx_callS X hx (bytes := bytes) (maxL := maxL) (ret := ret) ho hl hstt hini hcode hy hK hg (hsize.trans hml.symm) (argsL := As) (rest := rest) (fun sig h => hn.trans (hlen sig h)) hstack hW (by rw [hb]; exact hdg)
    (fun vm₁ hW₁ => ⟨hf.1, hf.2, hp.2 (T.setVm vm₁) hT hW₁⟩) with ⟨v, vm₁, ⟨U', l2, c2, s2⟩, hW₁, X', ⟨g', mk, t, L, e1, e2, hq, h1, hL, h2, h3⟩, st⟩ | ⟨q, vm₁, ⟨U', l2, c2, s2⟩, hW₁, X', ⟨g', mk, t, L, E, ce, e1, e2, hq, hce, hcv, hcl, h1, hL, h2, h3⟩, st⟩
  · dsimp only [Pt.U, Pt.locs, Pt.cells, Pt.slots] at X' e1 e2 h1 h2 h3 st
    subst h1; subst h2; subst h3
    exact Or.inl ⟨v, (T.setVm vm₁).calling g' mk As.toArray, t, U', L, hT, X', hL, e1, e2, hq, st⟩
  · dsimp only [Pt.U, Pt.locs, Pt.cells, Pt.slots] at X' e1 e2 h1 h2 h3 st hcl
    subst h1; subst h2; subst h3
    exact Or.inr ⟨q, (T.setVm vm₁).calling g' mk As.toArray, t, U', L, E, ce, hT, X', hL, e1, e2, hq, hce, hcv, vx_cls hW₁ hcl, st⟩
end Runs
section Rows
variable {p : Program} {l : Launch} {e : Env} {R : Room} {s : State} {m : MethodId} {args : Array Value} {below : List Frame} {meth : Method} {c : Code} {H : Heap} {locs : List Loc} {cells slots : Nat} {Q : State → Prop}
variable {mc ms : Nat} {free : Addr → Prop} {A0 A1 : Nat → Prop} {H0 : Heap} {a : Array Value} {pc : Nat} {ls : Array Slot} {st0 rest : List Value}
theorem vx_keep {st₀ t T' : State} {L : List Loc} (h0 : st₀.heap = H) (e1 : T'.heap = t.heap) (hS : va_S A0 H0 H locs) (hA : ∀ q, q < H.size → A1 q → A0 q) (hf : ∀ q, free q → A0 q) (hL : ∀ q ∈ L, free q.base) (hF : va_F A1 st₀ t) :
    H.size ≤ T'.heap.size ∧ (∀ q : Nat, q < H.size → ¬ A1 q → T'.heap[q]? = H[q]?) ∧ va_S A0 H0 T'.heap (locs ++ L) := by
  obtain ⟨hz, hk⟩ := hF
  rw [h0] at hz hk
  exact ⟨by rw [e1]; exact hz, fun q h1 h2 => by rw [e1]; exact hk q h1 h2,
    ⟨Nat.le_trans hS.1 (by rw [e1]; exact hz), fun q h1 h2 => by rw [e1, hk q (Nat.lt_of_lt_of_le h1 hS.1) (fun z => h2 (hA q (Nat.lt_of_lt_of_le h1 hS.1) z))]; exact hS.2.1 q h1 h2, fun q hq => by
      rcases List.mem_append.mp hq with h | h
      · exact hS.2.2 q h
      · exact hf _ (hL q h)⟩⟩
theorem vx_calli {S SX : Type} {post : Int32 → S → Prop} {px : SX → Prop} {B : S → State → Prop} {BX : String → SX → State → Prop} {AX : Nat → Prop} (hr : vx_Run p l e R s m args below meth c H locs cells slots mc ms (F0 m pc ls st0) rest (va_Qi post B A1 a) (vx_X px BX AX) free) (hS : va_S A0 H0 H locs) (hA : ∀ q, q < H.size → A1 q → A0 q) (hf : ∀ q, free q → A0 q) (hAX : ∀ q, q < H.size → AX q → A0 q)
    (kx : ∀ (E : String) (ce : Cell) (q9 : Addr) (u : SX) (t : State) (H1 : Heap) (locs1 : List Loc), t.heap = H1 → s.vm.Alike t.vm → px u → BX E u t → H.size ≤ H1.size → (∀ q : Nat, q < H.size → ¬ AX q → H1[q]? = H[q]?) → va_S A0 H0 H1 locs1 → H1[q9]? = some ce → ce.vm = .none → s.vm.findClass E = some ce.cls → vx_W p l e R s m args below meth c H1 locs1 (cells + mc) (slots + ms) Q (F0 m pc ls rest) q9)
    (kk : ∀ (r : Int32) (u : S) (t : State) (H1 : Heap) (locs1 : List Loc), t.heap = H1 → s.vm.Alike t.vm → post r u → B u t → H.size ≤ H1.size → (∀ q : Nat, q < H.size → ¬ A1 q → H1[q]? = H[q]?) → va_S A0 H0 H1 locs1 → W p l e R s m args below meth c H1 locs1 (cells + mc) (slots + ms) Q (F0 m (pc + 3) ls (.int r :: rest))) : W p l e R s m args below meth c H locs cells slots Q (F0 m pc ls st0) := by
  intro T hT X
  rcases hr T hT X with ⟨v, st₀, t, T', L, h0, X', hL, e1, e2, ⟨⟨r, u, hv, hp, hb⟩, hF⟩, st⟩ | ⟨q, st₀, t, T', L, E, ce, h0, X', hL, e1, e2, ⟨u, hp, hb, hF⟩, hce, hcv, hcl, st⟩
  · cases hv
    obtain ⟨k1, k2, k3⟩ := vx_keep h0 e1 hS hA hf hL hF
    obtain ⟨t2, a1, b1⟩ := kk r u t T'.heap (locs ++ L) e1.symm (by rw [← e2]; exact X'.warmed.alike) hp hb k1 k2 k3 T' rfl X'
    exact ⟨t2, st t2 a1, b1⟩
  · obtain ⟨k1, k2, k3⟩ := vx_keep h0 e1 hS hAX hf hL hF
    obtain ⟨t2, a1, b1⟩ := kx E ce q u t T'.heap (locs ++ L) e1.symm (by rw [← e2]; exact X'.warmed.alike) hp hb k1 k2 k3 (by rw [e1]; exact hce) hcv hcl T' rfl X'
    exact ⟨t2, st.trans a1, b1⟩
theorem vx_calll {S SX : Type} {post : Int64 → S → Prop} {px : SX → Prop} {B : S → State → Prop} {BX : String → SX → State → Prop} {AX : Nat → Prop} (hr : vx_Run p l e R s m args below meth c H locs cells slots mc ms (F0 m pc ls st0) rest (va_Ql post B A1 a) (vx_X px BX AX) free) (hS : va_S A0 H0 H locs) (hA : ∀ q, q < H.size → A1 q → A0 q) (hf : ∀ q, free q → A0 q) (hAX : ∀ q, q < H.size → AX q → A0 q)
    (kx : ∀ (E : String) (ce : Cell) (q9 : Addr) (u : SX) (t : State) (H1 : Heap) (locs1 : List Loc), t.heap = H1 → s.vm.Alike t.vm → px u → BX E u t → H.size ≤ H1.size → (∀ q : Nat, q < H.size → ¬ AX q → H1[q]? = H[q]?) → va_S A0 H0 H1 locs1 → H1[q9]? = some ce → ce.vm = .none → s.vm.findClass E = some ce.cls → vx_W p l e R s m args below meth c H1 locs1 (cells + mc) (slots + ms) Q (F0 m pc ls rest) q9)
    (kk : ∀ (r : Int64) (u : S) (t : State) (H1 : Heap) (locs1 : List Loc), t.heap = H1 → s.vm.Alike t.vm → post r u → B u t → H.size ≤ H1.size → (∀ q : Nat, q < H.size → ¬ A1 q → H1[q]? = H[q]?) → va_S A0 H0 H1 locs1 → W p l e R s m args below meth c H1 locs1 (cells + mc) (slots + ms) Q (F0 m (pc + 3) ls (.long r :: rest))) : W p l e R s m args below meth c H locs cells slots Q (F0 m pc ls st0) := by
  intro T hT X
  rcases hr T hT X with ⟨v, st₀, t, T', L, h0, X', hL, e1, e2, ⟨⟨r, u, hv, hp, hb⟩, hF⟩, st⟩ | ⟨q, st₀, t, T', L, E, ce, h0, X', hL, e1, e2, ⟨u, hp, hb, hF⟩, hce, hcv, hcl, st⟩
  · cases hv
    obtain ⟨k1, k2, k3⟩ := vx_keep h0 e1 hS hA hf hL hF
    obtain ⟨t2, a1, b1⟩ := kk r u t T'.heap (locs ++ L) e1.symm (by rw [← e2]; exact X'.warmed.alike) hp hb k1 k2 k3 T' rfl X'
    exact ⟨t2, st t2 a1, b1⟩
  · obtain ⟨k1, k2, k3⟩ := vx_keep h0 e1 hS hAX hf hL hF
    obtain ⟨t2, a1, b1⟩ := kx E ce q u t T'.heap (locs ++ L) e1.symm (by rw [← e2]; exact X'.warmed.alike) hp hb k1 k2 k3 (by rw [e1]; exact hce) hcv hcl T' rfl X'
    exact ⟨t2, st.trans a1, b1⟩
theorem vx_callf {S SX : Type} {post : UInt32 → S → Prop} {px : SX → Prop} {B : S → State → Prop} {BX : String → SX → State → Prop} {AX : Nat → Prop} (hr : vx_Run p l e R s m args below meth c H locs cells slots mc ms (F0 m pc ls st0) rest (va_Qf post B A1 a) (vx_X px BX AX) free) (hS : va_S A0 H0 H locs) (hA : ∀ q, q < H.size → A1 q → A0 q) (hf : ∀ q, free q → A0 q) (hAX : ∀ q, q < H.size → AX q → A0 q)
    (kx : ∀ (E : String) (ce : Cell) (q9 : Addr) (u : SX) (t : State) (H1 : Heap) (locs1 : List Loc), t.heap = H1 → s.vm.Alike t.vm → px u → BX E u t → H.size ≤ H1.size → (∀ q : Nat, q < H.size → ¬ AX q → H1[q]? = H[q]?) → va_S A0 H0 H1 locs1 → H1[q9]? = some ce → ce.vm = .none → s.vm.findClass E = some ce.cls → vx_W p l e R s m args below meth c H1 locs1 (cells + mc) (slots + ms) Q (F0 m pc ls rest) q9)
    (kk : ∀ (r : UInt32) (u : S) (t : State) (H1 : Heap) (locs1 : List Loc), t.heap = H1 → s.vm.Alike t.vm → post r u → B u t → H.size ≤ H1.size → (∀ q : Nat, q < H.size → ¬ A1 q → H1[q]? = H[q]?) → va_S A0 H0 H1 locs1 → W p l e R s m args below meth c H1 locs1 (cells + mc) (slots + ms) Q (F0 m (pc + 3) ls (.float r :: rest))) : W p l e R s m args below meth c H locs cells slots Q (F0 m pc ls st0) := by
  intro T hT X
  rcases hr T hT X with ⟨v, st₀, t, T', L, h0, X', hL, e1, e2, ⟨⟨r, u, hv, hp, hb⟩, hF⟩, st⟩ | ⟨q, st₀, t, T', L, E, ce, h0, X', hL, e1, e2, ⟨u, hp, hb, hF⟩, hce, hcv, hcl, st⟩
  · cases hv
    obtain ⟨k1, k2, k3⟩ := vx_keep h0 e1 hS hA hf hL hF
    obtain ⟨t2, a1, b1⟩ := kk r u t T'.heap (locs ++ L) e1.symm (by rw [← e2]; exact X'.warmed.alike) hp hb k1 k2 k3 T' rfl X'
    exact ⟨t2, st t2 a1, b1⟩
  · obtain ⟨k1, k2, k3⟩ := vx_keep h0 e1 hS hAX hf hL hF
    obtain ⟨t2, a1, b1⟩ := kx E ce q u t T'.heap (locs ++ L) e1.symm (by rw [← e2]; exact X'.warmed.alike) hp hb k1 k2 k3 (by rw [e1]; exact hce) hcv hcl T' rfl X'
    exact ⟨t2, st.trans a1, b1⟩
theorem vx_calld {S SX : Type} {post : UInt64 → S → Prop} {px : SX → Prop} {B : S → State → Prop} {BX : String → SX → State → Prop} {AX : Nat → Prop} (hr : vx_Run p l e R s m args below meth c H locs cells slots mc ms (F0 m pc ls st0) rest (va_Qd post B A1 a) (vx_X px BX AX) free) (hS : va_S A0 H0 H locs) (hA : ∀ q, q < H.size → A1 q → A0 q) (hf : ∀ q, free q → A0 q) (hAX : ∀ q, q < H.size → AX q → A0 q)
    (kx : ∀ (E : String) (ce : Cell) (q9 : Addr) (u : SX) (t : State) (H1 : Heap) (locs1 : List Loc), t.heap = H1 → s.vm.Alike t.vm → px u → BX E u t → H.size ≤ H1.size → (∀ q : Nat, q < H.size → ¬ AX q → H1[q]? = H[q]?) → va_S A0 H0 H1 locs1 → H1[q9]? = some ce → ce.vm = .none → s.vm.findClass E = some ce.cls → vx_W p l e R s m args below meth c H1 locs1 (cells + mc) (slots + ms) Q (F0 m pc ls rest) q9)
    (kk : ∀ (r : UInt64) (u : S) (t : State) (H1 : Heap) (locs1 : List Loc), t.heap = H1 → s.vm.Alike t.vm → post r u → B u t → H.size ≤ H1.size → (∀ q : Nat, q < H.size → ¬ A1 q → H1[q]? = H[q]?) → va_S A0 H0 H1 locs1 → W p l e R s m args below meth c H1 locs1 (cells + mc) (slots + ms) Q (F0 m (pc + 3) ls (.double r :: rest))) : W p l e R s m args below meth c H locs cells slots Q (F0 m pc ls st0) := by
  intro T hT X
  rcases hr T hT X with ⟨v, st₀, t, T', L, h0, X', hL, e1, e2, ⟨⟨r, u, hv, hp, hb⟩, hF⟩, st⟩ | ⟨q, st₀, t, T', L, E, ce, h0, X', hL, e1, e2, ⟨u, hp, hb, hF⟩, hce, hcv, hcl, st⟩
  · cases hv
    obtain ⟨k1, k2, k3⟩ := vx_keep h0 e1 hS hA hf hL hF
    obtain ⟨t2, a1, b1⟩ := kk r u t T'.heap (locs ++ L) e1.symm (by rw [← e2]; exact X'.warmed.alike) hp hb k1 k2 k3 T' rfl X'
    exact ⟨t2, st t2 a1, b1⟩
  · obtain ⟨k1, k2, k3⟩ := vx_keep h0 e1 hS hAX hf hL hF
    obtain ⟨t2, a1, b1⟩ := kx E ce q u t T'.heap (locs ++ L) e1.symm (by rw [← e2]; exact X'.warmed.alike) hp hb k1 k2 k3 (by rw [e1]; exact hce) hcv hcl T' rfl X'
    exact ⟨t2, st.trans a1, b1⟩
theorem vx_callv {S SX : Type} {post : S → Prop} {px : SX → Prop} {B : S → State → Prop} {BX : String → SX → State → Prop} {AX : Nat → Prop} (hr : vx_Run p l e R s m args below meth c H locs cells slots mc ms (F0 m pc ls st0) rest (va_Qv post B A1 a) (vx_X px BX AX) free) (hS : va_S A0 H0 H locs) (hA : ∀ q, q < H.size → A1 q → A0 q) (hf : ∀ q, free q → A0 q) (hAX : ∀ q, q < H.size → AX q → A0 q)
    (kx : ∀ (E : String) (ce : Cell) (q9 : Addr) (u : SX) (t : State) (H1 : Heap) (locs1 : List Loc), t.heap = H1 → s.vm.Alike t.vm → px u → BX E u t → H.size ≤ H1.size → (∀ q : Nat, q < H.size → ¬ AX q → H1[q]? = H[q]?) → va_S A0 H0 H1 locs1 → H1[q9]? = some ce → ce.vm = .none → s.vm.findClass E = some ce.cls → vx_W p l e R s m args below meth c H1 locs1 (cells + mc) (slots + ms) Q (F0 m pc ls rest) q9)
    (kk : ∀ (u : S) (t : State) (H1 : Heap) (locs1 : List Loc), t.heap = H1 → s.vm.Alike t.vm → post u → B u t → H.size ≤ H1.size → (∀ q : Nat, q < H.size → ¬ A1 q → H1[q]? = H[q]?) → va_S A0 H0 H1 locs1 → W p l e R s m args below meth c H1 locs1 (cells + mc) (slots + ms) Q (F0 m (pc + 3) ls (rest))) : W p l e R s m args below meth c H locs cells slots Q (F0 m pc ls st0) := by
  intro T hT X
  rcases hr T hT X with ⟨v, st₀, t, T', L, h0, X', hL, e1, e2, ⟨⟨u, hv, hp, hb⟩, hF⟩, st⟩ | ⟨q, st₀, t, T', L, E, ce, h0, X', hL, e1, e2, ⟨u, hp, hb, hF⟩, hce, hcv, hcl, st⟩
  · cases hv
    obtain ⟨k1, k2, k3⟩ := vx_keep h0 e1 hS hA hf hL hF
    obtain ⟨t2, a1, b1⟩ := kk u t T'.heap (locs ++ L) e1.symm (by rw [← e2]; exact X'.warmed.alike) hp hb k1 k2 k3 T' rfl X'
    exact ⟨t2, st t2 a1, b1⟩
  · obtain ⟨k1, k2, k3⟩ := vx_keep h0 e1 hS hAX hf hL hF
    obtain ⟨t2, a1, b1⟩ := kx E ce q u t T'.heap (locs ++ L) e1.symm (by rw [← e2]; exact X'.warmed.alike) hp hb k1 k2 k3 (by rw [e1]; exact hce) hcv hcl T' rfl X'
    exact ⟨t2, st.trans a1, b1⟩
/-- caught by the row x of this method's table; the rows ahead don't take it -/
theorem vx_catch {own name : String} {E : String} {ce : Cell} {q : Addr} (hown : s.vm.findClass own = some m.cls) (pre : List ExceptionTableEntry) (x : ExceptionTableEntry) (suf : List ExceptionTableEntry) (hsplit : c.exceptionTable.toList = pre ++ x :: suf)
    (hpass : ∀ z ∈ pre, covers z pc = false ∨ (z.catchType ≠ 0 ∧ ∃ nm : String, (Cond.classLink own z.catchType nm).before args s = true ∧ va_Nc E nm s)) (hx : covers x pc = true) (h0 : x.catchType ≠ 0)
    (hlink : (Cond.classLink own x.catchType name).before args s = true) (hcast : (Cond.castable E name).before args s = true) (hcell : H[q]? = some ce) (hv : ce.vm = .none) (hcl : s.vm.findClass E = some ce.cls)
    (kk : W p l e R s m args below meth c H locs cells slots Q (F0 m x.handlerPc ls [.ref q])) : vx_W p l e R s m args below meth c H locs cells slots Q (F0 m pc ls rest) q := by
  intro T hT X
  have hpl : e.platform.magicAccessors = ({} : Platform).magicAccessors := by rw [X.admits.platform]
  obtain ⟨c3, c4, hc3, hc4, hasg⟩ := Cond.castable_spec hcast
  cases Option.some.inj (hc3.symm.trans hcl)
  obtain ⟨c5, hc5, hcl5⟩ := Cond.classLink_spec hown hlink e.platform hpl
  cases Option.some.inj (hc4.symm.trans hc5)
  obtain ⟨vm', X', st⟩ := X.thenCaughtThrough q (g := F0 m pc ls rest) rfl (Steps.refl _) (by rw [hT]; exact hcell) (by rw [hv]; rfl) (by obtain ⟨k9, h9, -⟩ := Vm.findClass_spec hcl; exact ⟨k9, h9⟩) pre x suf hsplit
    (fun z hz => by
      rcases hpass z hz with h | ⟨hz0, nm, hl1, hn1⟩
      · exact Or.inl h
      · obtain ⟨c6, hc6, hcl6⟩ := Cond.classLink_spec hown hl1 e.platform hpl
        obtain ⟨a8, b8, h1, h2, h3⟩ := hn1
        cases Option.some.inj (h1.symm.trans hcl)
        cases Option.some.inj (h2.symm.trans hc6)
        exact Or.inr ⟨hz0, _, hcl6, h3⟩) hx (Or.inr ⟨h0, c4, hcl5, hasg⟩)
  obtain ⟨t, a1, b1⟩ := kk (T.setVm vm') hT X'
  exact ⟨t, st.trans a1, b1⟩
end Rows
section Ends
variable {p : Program} {l : Launch} {e : Env} {R : Room} {s : State} {m : MethodId} {args : Array Value} {below : List Frame} {meth : Method} {c : Code} {H : Heap} {locs : List Loc} {cells slots : Nat} {Q : State → Prop}
variable {mc ms : Nat} {free : Addr → Prop} {A0 A1 : Nat → Prop} {H0 : Heap} {a : Array Value} {ls : Array Slot} {st0 rest : List Value}
variable {Qc : Array Value → State → Outcome → State → Prop} {XC : String → State → State → Prop}
/-- what a body that may throw owes at its end -/
def vx_MQ (below : List Frame) (Qc : Array Value → State → Outcome → State → Prop) (XC : String → State → State → Prop) (a : Array Value) (s : State) (mc ms : Nat) (free : Addr → Prop) : State → Prop := fun t =>
  ∃ o, t.status = .running ∧ Ended t below o ∧ vx_Q Qc XC mc ms free a s o t
theorem vx_ret {g : JFrame} {mc ms : Nat} (k : W p l e R s m args below meth c H locs cells slots (MQ below Qc args s mc ms free) g) : W p l e R s m args below meth c H locs cells slots (vx_MQ below Qc XC args s mc ms free) g := by
  intro T hT X
  obtain ⟨t, a1, o, b1, b2, b3, b4⟩ := k T hT X
  exact ⟨t, a1, o, b1, b2, Or.inl ⟨b3, b4⟩⟩
/-- not caught here: it goes on to the caller -/
theorem vx_widen {g : JFrame} {q : Addr} {k n : Nat} (h1 : cells ≤ k) (h2 : slots ≤ n) (kk : vx_W p l e R s m args below meth c H locs k n Q g q) : vx_W p l e R s m args below meth c H locs cells slots Q g q := fun T hT X => kk T hT (stand_widen X h1 h2)
theorem vx_out {pc : Nat} {E : String} {ce : Cell} {q : Addr} {mc ms : Nat} (hout : ∀ x ∈ c.exceptionTable.toList, covers x pc = false) (hlocks : meth.locks = false) (hcell : H[q]? = some ce) (hv : ce.vm = .none) (hcl : s.vm.findClass E = some ce.cls)
    (hx : ∀ t : State, t.heap = H → s.vm.Alike t.vm → XC E s t) (hf : ∀ z ∈ locs, free z.base) (hc : cells ≤ mc) (hs : slots ≤ ms) :
    vx_W p l e R s m args below meth c H locs cells slots (vx_MQ below Qc XC args s mc ms free) (F0 m pc ls rest) q := by
  intro T hT X
  obtain ⟨st1, hrun, hend, hW, hsm⟩ := X.leaveThrown q (g := F0 m pc ls rest) rfl rfl rfl hout hlocks
  have hcell9 : (T.setFrames (.throwing q :: below)).heap[q]? = some ce := by
    show T.heap[q]? = some ce
    rw [hT]; exact hcell
  exact ⟨_, st1, .threw q, hrun, hend, Or.inr ⟨q, rfl, E, ce, locs, hx _ hT hW.alike, hcell9, hv, hcl, hW, hsm.mono hc hs, hf⟩⟩
theorem vx_frame {U : State} {k n : Nat} (h : s.sameButNew ({ U with vm := s.vm } : State) locs k n) : s.heap.size ≤ U.heap.size ∧ ∀ q : Nat, q < s.heap.size → (∀ z ∈ locs, z.base ≠ q) → U.heap[q]? = s.heap[q]? := by
  obtain ⟨-, h2, -, -, -, h6⟩ := h
  refine ⟨h2, fun q hq hz => ?_⟩
  obtain ⟨c9, e1, e2, e3, e4⟩ := h6 q _ (Array.getElem?_eq_getElem hq)
  have hs : c9.slots = (s.heap[q]).slots := Array.ext_getElem? fun i => e4 i fun hm => hz _ hm rfl
  have h9 : c9 = s.heap[q] := by
    rw [hs] at e2
    exact e2
  have e5 : U.heap[q]? = some c9 := e1
  rw [e5, h9, Array.getElem?_eq_getElem hq]
/-- the words of a throw but the four that speak of the heap -/
def vx_no (w : Cond) : Bool := decide (w ≠ .isRef (.static Bundle.tN "UNASSIGNED_STACK" Bundle.steD)) && decide (w ≠ .isRef (.static Bundle.tN "SUPPRESSED_SENTINEL" Bundle.listD)) && decide (w ≠ .laysStatic Bundle.tN "UNASSIGNED_STACK" Bundle.steD) && decide (w ≠ .laysStatic Bundle.tN "SUPPRESSED_SENTINEL" Bundle.listD)
def vx_at0 (own : String) (ic : Nat) (X : String) (names : List String) : List Cond := (Bundle.ownAtoms0 own ic X names).filter vx_no
def vx_atS (own : String) (ic : Nat) (X : String) (names : List String) : List Cond := (Bundle.ownAtoms own ic X names).filter vx_no
/-- a word that the tables alone decide, or a good one -/
def vx_ot (w : Cond) : Bool := w.onTables || goodWord w
theorem vx_ot_at {args a' : Array Value} {s U : State} {w : Cond} (hW : s.WarmedH U.vm) (hvm : s.vm = U.vm) (hg : vx_ot w = true) (h : w.before args s = true) : w.before a' U = true := by
  simp only [vx_ot, Bool.or_eq_true] at hg
  rcases hg with hg | hg
  · exact va_tabs hg hvm h
  · exact word_at hW (good_of_word hg) h
/-- a list's words: the good ones out of the method's own list, the others by premises of their own -/
theorem vx_hat {args : Array Value} {s : State} {L B : List Cond} (h1 : ∀ w ∈ L.filter goodWord, w.before args s = true) (h2 : ∀ w ∈ L.filter (fun w => !goodWord w), w ∈ B) (h3 : ∀ w ∈ B, w.before args s = true) : ∀ w ∈ L, w.before args s = true := by
  intro w hw
  by_cases g : goodWord w = true
  · exact h1 w (List.mem_filter.mpr ⟨hw, g⟩)
  · refine h3 w (h2 w (List.mem_filter.mpr ⟨hw, ?_⟩))
    show (!goodWord w) = true
    cases hgw : goodWord w
    · rfl
    · exact absurd hgw g
theorem vx_c {args : Array Value} {s : State} {w : Cond} {B : List Cond} (h : w.before args s = true) (t : ∀ w ∈ B, w.before args s = true) : ∀ w' ∈ w :: B, w'.before args s = true := fun w' h' => (List.mem_cons.mp h').elim (fun e => by rw [e]; exact h) (t w')
theorem vx_n {args : Array Value} {s : State} : ∀ w ∈ ([] : List Cond), w.before args s = true := fun _ h => nomatch h
theorem vx_own {args : Array Value} {s : State} {L : List Cond} (h1 : ∀ w ∈ L.filter vx_no, w.before args s = true)
    (hU : (Cond.isRef (.static Bundle.tN "UNASSIGNED_STACK" Bundle.steD)).before args s = true) (hN : (Cond.isRef (.static Bundle.tN "SUPPRESSED_SENTINEL" Bundle.listD)).before args s = true)
    (lU : (Cond.laysStatic Bundle.tN "UNASSIGNED_STACK" Bundle.steD).before args s = true) (lN : (Cond.laysStatic Bundle.tN "SUPPRESSED_SENTINEL" Bundle.listD).before args s = true) : ∀ w ∈ L, w.before args s = true := by
  intro w hw
  by_cases e1 : w = .isRef (.static Bundle.tN "UNASSIGNED_STACK" Bundle.steD)
  · rw [e1]; exact hU
  · by_cases e2 : w = .isRef (.static Bundle.tN "SUPPRESSED_SENTINEL" Bundle.listD)
    · rw [e2]; exact hN
    · by_cases e3 : w = .laysStatic Bundle.tN "UNASSIGNED_STACK" Bundle.steD
      · rw [e3]; exact lU
      · by_cases e4 : w = .laysStatic Bundle.tN "SUPPRESSED_SENTINEL" Bundle.listD
        · rw [e4]; exact lN
        · exact h1 w (List.mem_filter.mpr ⟨hw, by unfold vx_no; rw [decide_eq_true e1, decide_eq_true e2, decide_eq_true e3, decide_eq_true e4]; rfl⟩)
/-- where a static field lies, its class's statics cell in H -/
def vx_L (C n d : String) (A : Nat → Prop) (U : State) (H : Heap) : Prop := ∃ (c : ClassId) (k : Class) (i : Nat) (f : Field) (a : Nat) (cell : Cell), U.vm.findClass C = some c ∧ U.fieldFound? C n d = some (c, k, i, f) ∧ f.isStatic = true ∧ k.statics = some a ∧ H[a]? = some cell ∧ cell.vm.isStatics = true ∧ cell.cls = c ∧ f.slot < cell.slots.size ∧ k.staticTypes[f.slot]? = some f.type ∧ ¬ A a
theorem vx_L.moved {C n d : String} {A : Nat → Prop} {u U : State} {H : Heap} (hvm : u.vm.Alike U.vm) (h : vx_L C n d A u H) : vx_L C n d A U H := by
  obtain ⟨c, k, i, f, a, cell, h1, h2, h3, h4, h5, h6, h7, h8, h9, h10⟩ := h
  obtain ⟨k', hi', he⟩ := State.fieldFound?_setVm hvm h2
  exact ⟨c, k', i, f, a, cell, by rw [hvm.findClass]; exact h1, hi', h3, by rw [he]; exact h4, h5, h6, h7, h8, by rw [he]; exact h9, h10⟩
theorem vx_L.kept {C n d : String} {A : Nat → Prop} {U : State} {H H1 : Heap} (h : vx_L C n d A U H) (hq : ∀ a : Nat, a < H.size → ¬ A a → H1[a]? = H[a]?) : vx_L C n d A U H1 := by
  obtain ⟨c, k, i, f, a, cell, h1, h2, h3, h4, h5, h6, h7, h8, h9, h10⟩ := h
  exact ⟨c, k, i, f, a, cell, h1, h2, h3, h4, by rw [hq a (Array.getElem?_eq_some_iff.mp h5).1 h10]; exact h5, h6, h7, h8, h9, h10⟩
theorem vx_L.narrow {C n d : String} {A B : Nat → Prop} {U : State} {H : Heap} (h : vx_L C n d A U H) (hAB : ∀ q, B q → A q) : vx_L C n d B U H := by
  obtain ⟨c, k, i, f, a, cell, h1, h2, h3, h4, h5, h6, h7, h8, h9, h10⟩ := h
  exact ⟨c, k, i, f, a, cell, h1, h2, h3, h4, h5, h6, h7, h8, h9, fun z => h10 (hAB _ z)⟩
theorem vx_L.word {C n d : String} {A : Nat → Prop} {s : State} {args : Array Value} (h : vx_L C n d A s s.heap) : (Cond.laysStatic C n d).before args s = true := by
  obtain ⟨c, k, i, f, a, cell, h1, h2, h3, h4, h5, h6, h7, h8, h9, -⟩ := h
  show (Cond.laysStatic C n d).holds args s none s [] = true
  exact Cond.laysStatic_of h1 h2 h3 h4 h5 h6 h7 h8 h9
/-- .. and what it holds: null or some reference -/
def vx_Zq (C n d : String) (A : Nat → Prop) (U : State) (H : Heap) : Prop := va_Zq C n d A U H ∧ vx_L C n d A U H
theorem vx_Zq.moved {C n d : String} {A : Nat → Prop} {u U : State} {H : Heap} (hvm : u.vm.Alike U.vm) (h : vx_Zq C n d A u H) : vx_Zq C n d A U H := ⟨va_Zq.moved hvm h.1, vx_L.moved hvm h.2⟩
theorem vx_Zq.kept {C n d : String} {A : Nat → Prop} {U : State} {H H1 : Heap} (h : vx_Zq C n d A U H) (hq : ∀ a : Nat, a < H.size → ¬ A a → H1[a]? = H[a]?) : vx_Zq C n d A U H1 := ⟨va_Zq.kept h.1 hq, vx_L.kept h.2 hq⟩
theorem vx_Zq.narrow {C n d : String} {A B : Nat → Prop} {U : State} {H : Heap} (h : vx_Zq C n d A U H) (hAB : ∀ q, B q → A q) : vx_Zq C n d B U H := ⟨va_Zq.narrow h.1 hAB, vx_L.narrow h.2 hAB⟩
theorem vx_Zqof {args : Array Value} {s : State} {C n d : String} {A : Nat → Prop} (hl : (Cond.laysStatic C n d).before args s = true) (hini : (Cond.initialized C).before args s = true) (h : (Cond.isRef (.static C n d)).before args s = true) (hA : ∀ a : Nat, a < s.heap.size → ¬ A a) : vx_Zq C n d A s s.heap := by
  refine ⟨va_Zqof hl hini h hA, ?_⟩
  obtain ⟨c, k, i, f, a, cell, h1, h2, h3, h4, h5, h6, h7, h8, h9⟩ := Cond.laysStatic_spec hl
  exact ⟨c, k, i, f, a, cell, h1, h2, h3, h4, h5, h6, h7, h8, h9, hA a (Array.getElem?_eq_some_iff.mp h5).1⟩
theorem vx_isRef {C n d : String} {v : Value} {A : Nat → Prop} {s : State} {args : Array Value} (h : va_Z C n d v A s s.heap) (hv : v.isRef = true) : (Cond.isRef (.static C n d)).before args s = true := by
  obtain ⟨cf, kf, fi, f, a, cell, h1, h2, h3, h4, h5, h6, h7, -⟩ := h
  have he : (Term.static C n d).eval args s none [] s = some v := by
    simp [Term.eval, State.fieldNamed?, h1, h2, h4, h5, h6, h7]
  simp only [Cond.before, Cond.holds, Cond.value, he]
  cases v <;> simp_all [Value.isRef]
theorem vx_isRefq {C n d : String} {A : Nat → Prop} {s : State} {args : Array Value} (h : va_Zq C n d A s s.heap) : (Cond.isRef (.static C n d)).before args s = true := by
  rcases h with h | ⟨t, h⟩
  · exact vx_isRef h rfl
  · exact vx_isRef h rfl
/-- the same frame, seen from here: as if the method were called anew in this heap -/
theorem vx_rebase {T : State} (X : Stand p l e R s m args below meth c T locs cells slots) {R' : Room} (hf : R'.frames ≤ R.frames) (hl : R'.locals ≤ R.locals) (hc : cells + R'.cells ≤ R.cells) (hs : slots + R'.slots ≤ R.slots) :
    Stand p l e R' ((T.setVm s.vm).setFrames (.invoking m args :: below)) m args below meth c T [] 0 0 := by
  have htop : (T.setVm s.vm).topJava?.isSome := X.here.top
  have hF : ((T.setVm s.vm).setFrames (.invoking m args :: below)).frames = .invoking m args :: below := State.frames_setFrames _ (State.cur_lt_of_top htop)
  obtain ⟨g₀, hg0⟩ := Option.isSome_iff_exists.mp htop
  obtain ⟨r, hr⟩ := State.topJava?_eq_some.mp hg0
  have hl9 : e.platform.stackLimits (T.setVm s.vm).me = e.platform.stackLimits s.me := X.limits
  have hb9 : (T.setVm s.vm).me.stackBytes = s.me.stackBytes := X.bytes
  refine ⟨X.admits, X.cas, X.clock, hF, ?_, X.hears, X.method, X.code, X.here, X.tail, X.warmed, ?_, ?_, ?_⟩
  · have h := X.room
    have hU : ((T.setVm s.vm).setFrames (.invoking m args :: below)).localsInUse = s.localsInUse := by
      rw [State.localsInUse_invoking hF (meth := meth) (c := c) X.method X.code, State.localsInUse_invoking X.frames X.method X.code]
    simp only [State.hasRoom, Bool.and_eq_true, decide_eq_true_eq] at h ⊢
    obtain ⟨⟨⟨⟨h1, h2, h3, h4, h5, h6⟩, h7⟩, h8⟩, h9⟩ := h
    rw [X.frames, List.length_cons] at h2 h3
    have q1 := X.heapSize
    have q2 := X.used
    simp only [hF, hU, List.length_cons, State.stackLimits_setFrames, State.stackBytes_setFrames, hl9, hb9]
    refine ⟨⟨⟨⟨by omega, by omega, by omega, by omega, by omega, h6⟩, ?_⟩, ?_⟩, X.book⟩
    · show T.heap.size + R'.cells ≤ e.platform.maxCells
      omega
    · show T.slotsUsed + R'.slots ≤ e.platform.maxSlots
      omega
  · rw [State.stackLimits_setFrames]; rfl
  · rw [State.stackBytes_setFrames]; rfl
  · refine ⟨?_, Nat.le_refl _, Nat.le_refl _, ?_, ?_, fun a c9 h9 => ⟨c9, h9, rfl, rfl, fun _ _ => rfl⟩⟩
    · obtain ⟨t, ht, -⟩ := State.frames_cons hr
      show T.setVm s.vm = { ((T.setVm s.vm).setFrames (.invoking m args :: below)).setFrames (T.setVm s.vm).frames with heap := T.heap, slotsUsed := T.slotsUsed }
      rw [State.setFrames_setFrames, State.setFrames_self ht]
      rfl
    · show T.slotsUsed = T.slotsUsed + ((T.heap.toList.drop T.heap.size).map (·.slots.size)).sum
      rw [List.drop_eq_nil_of_le (Nat.le_of_eq Array.length_toList)]
      rfl
    · show ((T.heap.toList.drop T.heap.size).map (·.slots.size)).sum ≤ 0
      rw [List.drop_eq_nil_of_le (Nat.le_of_eq Array.length_toList)]
      exact Nat.le_refl _
/-- 'throw new E()': new; dup; invokespecial; athrow -/
theorem vx_throw0 {cc : ByteArray} {pc : Nat} (hexec : p.tables.exec = Jvm.exec) (hb : c.code = cc) (hl : l.stackTraces = false) {own cls : String} {names : List String} {ik ic mc ms : Nat} {A : Nat → Prop}
    (hown : s.vm.findClass own = some m.cls) (hcls : Bundle.fit cls = true) (hnames : ∀ n ∈ names, Bundle.fit n = true)
    (hk : (Cond.classLink own ik cls).before args s = true) (hini : (Cond.initialized cls).before args s = true) (hat : ∀ w ∈ vx_at0 own ic cls names, w.before args s = true)
    (hgood : ∀ w ∈ Cond.classLink own ik cls :: Cond.initialized cls :: vx_at0 own ic cls names, vx_ot w = true)
    (hU : vx_Zq Bundle.tN "UNASSIGNED_STACK" Bundle.steD A s s.heap) (hN : vx_Zq Bundle.tN "SUPPRESSED_SENTINEL" Bundle.listD A s s.heap) (hS : va_S A s.heap H locs) (hsize : ls.size = c.maxLocals)
    (d0 : decode cc pc = .ok (.new ik, 3)) (d3 : decode cc (pc + 3) = .ok (.dup, 1)) (d4 : decode cc (pc + 4) = .ok (.invokespecial ic, 3)) (d7 : decode cc (pc + 7) = .ok (.athrow, 1))
    (hout : ∀ x ∈ c.exceptionTable.toList, covers x (pc + 7) = false)
    (hRframes : names.length + 3 < R.frames) (hRlocals : (rest.map fun v => v.category).sum + (13 * (names.length + 1) + 42) ≤ R.locals) (hRcells : cells + 1 ≤ R.cells) (hRslots : slots + 6 ≤ R.slots) (hlocks : meth.locks = false)
    (hx : ∀ t : State, s.vm.Alike t.vm → H.size ≤ t.heap.size → (∀ q : Nat, q < H.size → t.heap[q]? = H[q]?) → XC cls s t)
    (hf : ∀ z ∈ locs, free z.base) (hc : cells + 1 ≤ mc) (hs : slots + 6 ≤ ms) :
    W p l e R s m args below meth c H locs cells slots (vx_MQ below Qc XC args s mc ms free) (F0 m pc ls rest) := by
  intro T hT X
  have htr : e.platform.stackTraces = false := (show e.platform.stackTraces = l.stackTraces by rw [X.admits.platform]).trans hl
  have Y := vx_rebase X (R' := { frames := R.frames, locals := R.locals, cells := 1, slots := 6 }) (Nat.le_refl _) (Nat.le_refl _) hRcells hRslots
  obtain ⟨s', hA⟩ : ∃ z, z = (T.setVm s.vm).setFrames (.invoking m args :: below) := ⟨_, rfl⟩
  rw [← hA] at Y
  have hvm : s'.vm = s.vm := by rw [hA]; rfl
  have hhp : s'.heap = H := by rw [hA]; exact hT
  have hW0 : s.WarmedH s'.vm := by rw [hvm]; exact State.WarmedH.refl s
  have hat' : ∀ w ∈ vx_at0 own ic cls names, w.before args s' = true := fun w hw => vx_ot_at hW0 hvm.symm (hgood w (List.mem_cons_of_mem _ (List.mem_cons_of_mem _ hw))) (hat w hw)
  have hk' : (Cond.classLink own ik cls).before args s' = true := vx_ot_at hW0 hvm.symm (hgood _ List.mem_cons_self) hk
  have hini' : (Cond.initialized cls).before args s' = true := vx_ot_at hW0 hvm.symm (hgood _ (List.mem_cons_of_mem _ List.mem_cons_self)) hini
  have hU' : vx_Zq Bundle.tN "UNASSIGNED_STACK" Bundle.steD A s' s'.heap := by rw [hhp]; exact vx_Zq.moved hW0.alike (hU.kept hS.2.1)
  have hN' : vx_Zq Bundle.tN "SUPPRESSED_SENTINEL" Bundle.listD A s' s'.heap := by rw [hhp]; exact vx_Zq.moved hW0.alike (hN.kept hS.2.1)
  have h : ∀ w ∈ Bundle.ownAtoms0 own ic cls names, w.before args s' = true := vx_own hat' (vx_isRefq hU'.1) (vx_isRefq hN'.1) hU'.2.word hN'.2.word
  have hown' : s'.vm.findClass own = some m.cls := by rw [hvm]; exact hown
  have hins : (Cond.instantiable cls 6).before args s' = true := h _ (by simp [Bundle.ownAtoms0])
  obtain ⟨vm₁, cX, kX, hfX, hkX, -, -, X₁, st1⟩ := Y.newCold hexec (own := own) (C := cls) (index := ik) (n := 6) hown' hk' hins hini'
    (g := F0 m pc ls rest) rfl (by rw [hb]; exact d0) (Nat.le_refl _) (Nat.le_refl _)
  generalize hT1 : (T.setVm vm₁).pushCell { cls := cX, slots := kX.instanceTypes.map defaultValue, vm := .none } = T1 at X₁ st1
  have hcat : (Value.ref T.heap.size).category = 1 := rfl
  have hcellA : T1.heap[T.heap.size]? = some (freshCell cX kX) := by rw [← hT1]; exact State.heap_pushCell_size _ _
  have d3' : decode c.code (pc + 3) = .ok (.dup, 1) := by rw [hb]; exact d3
  obtain ⟨U, hsteps, hrun, hend, hW, hsame, ce, hce, hO⟩ := X₁.ctorThrow0 hexec htr (own := own) (cls := cls) (names := names) (ic := ic) hown' hcls hnames h (fun x hx => nomatch hx) hfX hkX hcellA (by rw [hhp, hT]; exact Nat.le_refl _)
    (g := { method := m, pc := pc + 4, locals := ls, stack := .ref T.heap.size :: .ref T.heap.size :: rest, locked := none }) rfl hsize rfl rfl (rest := rest) rfl
    (by rw [hb]; exact d4) (by rw [hb]; exact d7) hout hRframes (by simp only [List.map_cons, List.sum_cons, hcat]; omega) hlocks
  obtain ⟨f1, f2⟩ := vx_frame hsame
  rw [hhp] at f1 f2
  have hWs : s.WarmedH U.vm := State.WarmedH.trans hW0 hW
  have hcl : s.vm.findClass cls = some ce.cls := by
    have h9 := hO.cls
    rw [hvm] at h9
    exact h9
  have hall : s.sameButNew ({ U with vm := s.vm } : State) locs mc ms := by
    subst hA
    obtain ⟨e1, e2⟩ := hsame
    rw [State.setFrames_setFrames] at e1
    have h2 : (T.setVm s.vm).sameButNew ({ U with vm := s.vm } : State) [] (0 + 1) (0 + 6) := ⟨e1, e2⟩
    have h3 := X.same.trans h2
    rw [List.append_nil] at h3
    exact h3.mono hc hs
  refine ⟨U, ?_, .threw T.heap.size, hrun, hend, Or.inr ⟨T.heap.size, rfl, cls, ce, locs, hx U hWs.alike f1 (fun q hq => f2 q hq (fun z hz => nomatch hz)), hce, hO.vm, hcl, hWs, hall, hf⟩⟩
  refine st1 _ ?_
  show Steps p.tables e below (T1.setTop { method := m, pc := pc + 3, locals := ls, stack := .ref T.heap.size :: rest, locked := none }) _
  jvm_step X₁.here [X₁.here.top, hexec, d3', Value.category]
  exact hsteps
/-- 'throw new E("text")': new; dup; ldc; invokespecial; athrow -/
theorem vx_throwS {cc : ByteArray} {pc : Nat} (hexec : p.tables.exec = Jvm.exec) (hb : c.code = cc) (hl : l.stackTraces = false) {own cls text : String} {names : List String} {ik is ic mc ms sa : Nat} {A : Nat → Prop}
    (hown : s.vm.findClass own = some m.cls) (hcls : Bundle.fit cls = true) (hnames : ∀ n ∈ names, Bundle.fit n = true)
    (hk : (Cond.classLink own ik cls).before args s = true) (hini : (Cond.initialized cls).before args s = true) (hstr : vk_R own is text sa s) (hat : ∀ w ∈ vx_atS own ic cls names, w.before args s = true)
    (hgood : ∀ w ∈ Cond.classLink own ik cls :: Cond.initialized cls :: vx_atS own ic cls names, vx_ot w = true)
    (hU : vx_Zq Bundle.tN "UNASSIGNED_STACK" Bundle.steD A s s.heap) (hN : vx_Zq Bundle.tN "SUPPRESSED_SENTINEL" Bundle.listD A s s.heap) (hS : va_S A s.heap H locs) (hsize : ls.size = c.maxLocals)
    (d0 : decode cc pc = .ok (.new ik, 3)) (d3 : decode cc (pc + 3) = .ok (.dup, 1)) (d4 : decode cc (pc + 4) = .ok (.ldc is, 2)) (d6 : decode cc (pc + 6) = .ok (.invokespecial ic, 3)) (d9 : decode cc (pc + 9) = .ok (.athrow, 1))
    (hout : ∀ x ∈ c.exceptionTable.toList, covers x (pc + 9) = false)
    (hRframes : names.length + 3 < R.frames) (hRlocals : (rest.map fun v => v.category).sum + (13 * (names.length + 1) + 43) ≤ R.locals) (hRcells : cells + 1 ≤ R.cells) (hRslots : slots + 6 ≤ R.slots) (hlocks : meth.locks = false)
    (hx : ∀ t : State, s.vm.Alike t.vm → H.size ≤ t.heap.size → (∀ q : Nat, q < H.size → t.heap[q]? = H[q]?) → XC cls s t)
    (hf : ∀ z ∈ locs, free z.base) (hc : cells + 1 ≤ mc) (hs : slots + 6 ≤ ms) :
    W p l e R s m args below meth c H locs cells slots (vx_MQ below Qc XC args s mc ms free) (F0 m pc ls rest) := by
  intro T hT X
  have htr : e.platform.stackTraces = false := (show e.platform.stackTraces = l.stackTraces by rw [X.admits.platform]).trans hl
  have Y := vx_rebase X (R' := { frames := R.frames, locals := R.locals, cells := 1, slots := 6 }) (Nat.le_refl _) (Nat.le_refl _) hRcells hRslots
  obtain ⟨s', hA⟩ : ∃ z, z = (T.setVm s.vm).setFrames (.invoking m args :: below) := ⟨_, rfl⟩
  rw [← hA] at Y
  have hvm : s'.vm = s.vm := by rw [hA]; rfl
  have hhp : s'.heap = H := by rw [hA]; exact hT
  have hW0 : s.WarmedH s'.vm := by rw [hvm]; exact State.WarmedH.refl s
  have hat' : ∀ w ∈ vx_atS own ic cls names, w.before args s' = true := fun w hw => vx_ot_at hW0 hvm.symm (hgood w (List.mem_cons_of_mem _ (List.mem_cons_of_mem _ hw))) (hat w hw)
  have hk' : (Cond.classLink own ik cls).before args s' = true := vx_ot_at hW0 hvm.symm (hgood _ List.mem_cons_self) hk
  have hini' : (Cond.initialized cls).before args s' = true := vx_ot_at hW0 hvm.symm (hgood _ (List.mem_cons_of_mem _ List.mem_cons_self)) hini
  have hU' : vx_Zq Bundle.tN "UNASSIGNED_STACK" Bundle.steD A s' s'.heap := by rw [hhp]; exact vx_Zq.moved hW0.alike (hU.kept hS.2.1)
  have hN' : vx_Zq Bundle.tN "SUPPRESSED_SENTINEL" Bundle.listD A s' s'.heap := by rw [hhp]; exact vx_Zq.moved hW0.alike (hN.kept hS.2.1)
  have h : ∀ w ∈ Bundle.ownAtoms own ic cls names, w.before args s' = true := vx_own hat' (vx_isRefq hU'.1) (vx_isRefq hN'.1) hU'.2.word hN'.2.word
  have hown' : s'.vm.findClass own = some m.cls := by rw [hvm]; exact hown
  have hins : (Cond.instantiable cls 6).before args s' = true := h _ (by simp [Bundle.ownAtoms])
  obtain ⟨vm₁, cX, kX, hfX, hkX, -, -, X₁, st1⟩ := Y.newCold hexec (own := own) (C := cls) (index := ik) (n := 6) hown' hk' hins hini'
    (g := F0 m pc ls rest) rfl (by rw [hb]; exact d0) (Nat.le_refl _) (Nat.le_refl _)
  generalize hT1 : (T.setVm vm₁).pushCell { cls := cX, slots := kX.instanceTypes.map defaultValue, vm := .none } = T1 at X₁ st1
  have hcat : (Value.ref T.heap.size).category = 1 := rfl
  have hcellA : T1.heap[T.heap.size]? = some (freshCell cX kX) := by rw [← hT1]; exact State.heap_pushCell_size _ _
  have d3' : decode c.code (pc + 3) = .ok (.dup, 1) := by rw [hb]; exact d3
  have d4' : decode c.code (pc + 4) = .ok (.ldc is, 2) := by rw [hb]; exact d4
  have hstr' : vk_R own is text sa s' := vk_R.warm hW0 hstr
  obtain ⟨U, hsteps, hrun, hend, hW, hsame, ce, hce, hO⟩ := X₁.ctorThrowS hexec htr (own := own) (cls := cls) (names := names) (ic := ic) hown' hcls hnames h (fun x hx => nomatch hx) hfX hkX hcellA (by rw [hhp, hT]; exact Nat.le_refl _) (msg := .ref sa) rfl
    (g := { method := m, pc := pc + 6, locals := ls, stack := .ref sa :: .ref T.heap.size :: .ref T.heap.size :: rest, locked := none }) rfl hsize rfl rfl (rest := rest) rfl
    (by rw [hb]; exact d6) (by rw [hb]; exact d9) hout hRframes (by simp only [List.map_cons, List.sum_cons, hcat]; omega) hlocks
  obtain ⟨f1, f2⟩ := vx_frame hsame
  rw [hhp] at f1 f2
  have hWs : s.WarmedH U.vm := State.WarmedH.trans hW0 hW
  have hcl : s.vm.findClass cls = some ce.cls := by
    have h9 := hO.cls
    rw [hvm] at h9
    exact h9
  have hall : s.sameButNew ({ U with vm := s.vm } : State) locs mc ms := by
    subst hA
    obtain ⟨e1, e2⟩ := hsame
    rw [State.setFrames_setFrames] at e1
    have h2 : (T.setVm s.vm).sameButNew ({ U with vm := s.vm } : State) [] (0 + 1) (0 + 6) := ⟨e1, e2⟩
    have h3 := X.same.trans h2
    rw [List.append_nil] at h3
    exact h3.mono hc hs
  refine ⟨U, ?_, .threw T.heap.size, hrun, hend, Or.inr ⟨T.heap.size, rfl, cls, ce, locs, hx U hWs.alike f1 (fun q hq => f2 q hq (fun z hz => nomatch hz)), hce, hO.vm, hcl, hWs, hall, hf⟩⟩
  refine st1 _ ?_
  show Steps p.tables e below (T1.setTop { method := m, pc := pc + 3, locals := ls, stack := .ref T.heap.size :: rest, locked := none }) _
  jvm_step X₁.here [X₁.here.top, hexec, d3', Value.category]
  exact X₁.ldcString hexec (own := own) (text := text) (index := is) (a := sa) hown' hstr'.1 hstr'.2
    (g := { method := m, pc := pc + 4, locals := ls, stack := .ref T.heap.size :: .ref T.heap.size :: rest, locked := none }) rfl d4' _ hsteps
/-- 'throw new E("text")', the text by a wide index -/
theorem vx_throwSW {cc : ByteArray} {pc : Nat} (hexec : p.tables.exec = Jvm.exec) (hb : c.code = cc) (hl : l.stackTraces = false) {own cls text : String} {names : List String} {ik is ic mc ms sa : Nat} {A : Nat → Prop}
    (hown : s.vm.findClass own = some m.cls) (hcls : Bundle.fit cls = true) (hnames : ∀ n ∈ names, Bundle.fit n = true)
    (hk : (Cond.classLink own ik cls).before args s = true) (hini : (Cond.initialized cls).before args s = true) (hstr : vk_R own is text sa s) (hat : ∀ w ∈ vx_atS own ic cls names, w.before args s = true)
    (hgood : ∀ w ∈ Cond.classLink own ik cls :: Cond.initialized cls :: vx_atS own ic cls names, vx_ot w = true)
    (hU : vx_Zq Bundle.tN "UNASSIGNED_STACK" Bundle.steD A s s.heap) (hN : vx_Zq Bundle.tN "SUPPRESSED_SENTINEL" Bundle.listD A s s.heap) (hS : va_S A s.heap H locs) (hsize : ls.size = c.maxLocals)
    (d0 : decode cc pc = .ok (.new ik, 3)) (d3 : decode cc (pc + 3) = .ok (.dup, 1)) (d4 : decode cc (pc + 4) = .ok (.ldc_w is, 3)) (d7 : decode cc (pc + 7) = .ok (.invokespecial ic, 3)) (d10 : decode cc (pc + 10) = .ok (.athrow, 1))
    (hout : ∀ x ∈ c.exceptionTable.toList, covers x (pc + 10) = false)
    (hRframes : names.length + 3 < R.frames) (hRlocals : (rest.map fun v => v.category).sum + (13 * (names.length + 1) + 43) ≤ R.locals) (hRcells : cells + 1 ≤ R.cells) (hRslots : slots + 6 ≤ R.slots) (hlocks : meth.locks = false)
    (hx : ∀ t : State, s.vm.Alike t.vm → H.size ≤ t.heap.size → (∀ q : Nat, q < H.size → t.heap[q]? = H[q]?) → XC cls s t)
    (hf : ∀ z ∈ locs, free z.base) (hc : cells + 1 ≤ mc) (hs : slots + 6 ≤ ms) :
    W p l e R s m args below meth c H locs cells slots (vx_MQ below Qc XC args s mc ms free) (F0 m pc ls rest) := by
  intro T hT X
  have htr : e.platform.stackTraces = false := (show e.platform.stackTraces = l.stackTraces by rw [X.admits.platform]).trans hl
  have Y := vx_rebase X (R' := { frames := R.frames, locals := R.locals, cells := 1, slots := 6 }) (Nat.le_refl _) (Nat.le_refl _) hRcells hRslots
  obtain ⟨s', hA⟩ : ∃ z, z = (T.setVm s.vm).setFrames (.invoking m args :: below) := ⟨_, rfl⟩
  rw [← hA] at Y
  have hvm : s'.vm = s.vm := by rw [hA]; rfl
  have hhp : s'.heap = H := by rw [hA]; exact hT
  have hW0 : s.WarmedH s'.vm := by rw [hvm]; exact State.WarmedH.refl s
  have hat' : ∀ w ∈ vx_atS own ic cls names, w.before args s' = true := fun w hw => vx_ot_at hW0 hvm.symm (hgood w (List.mem_cons_of_mem _ (List.mem_cons_of_mem _ hw))) (hat w hw)
  have hk' : (Cond.classLink own ik cls).before args s' = true := vx_ot_at hW0 hvm.symm (hgood _ List.mem_cons_self) hk
  have hini' : (Cond.initialized cls).before args s' = true := vx_ot_at hW0 hvm.symm (hgood _ (List.mem_cons_of_mem _ List.mem_cons_self)) hini
  have hU' : vx_Zq Bundle.tN "UNASSIGNED_STACK" Bundle.steD A s' s'.heap := by rw [hhp]; exact vx_Zq.moved hW0.alike (hU.kept hS.2.1)
  have hN' : vx_Zq Bundle.tN "SUPPRESSED_SENTINEL" Bundle.listD A s' s'.heap := by rw [hhp]; exact vx_Zq.moved hW0.alike (hN.kept hS.2.1)
  have h : ∀ w ∈ Bundle.ownAtoms own ic cls names, w.before args s' = true := vx_own hat' (vx_isRefq hU'.1) (vx_isRefq hN'.1) hU'.2.word hN'.2.word
  have hown' : s'.vm.findClass own = some m.cls := by rw [hvm]; exact hown
  have hins : (Cond.instantiable cls 6).before args s' = true := h _ (by simp [Bundle.ownAtoms])
  obtain ⟨vm₁, cX, kX, hfX, hkX, -, -, X₁, st1⟩ := Y.newCold hexec (own := own) (C := cls) (index := ik) (n := 6) hown' hk' hins hini'
    (g := F0 m pc ls rest) rfl (by rw [hb]; exact d0) (Nat.le_refl _) (Nat.le_refl _)
  generalize hT1 : (T.setVm vm₁).pushCell { cls := cX, slots := kX.instanceTypes.map defaultValue, vm := .none } = T1 at X₁ st1
  have hcat : (Value.ref T.heap.size).category = 1 := rfl
  have hcellA : T1.heap[T.heap.size]? = some (freshCell cX kX) := by rw [← hT1]; exact State.heap_pushCell_size _ _
  have d3' : decode c.code (pc + 3) = .ok (.dup, 1) := by rw [hb]; exact d3
  have d4' : decode c.code (pc + 4) = .ok (.ldc_w is, 3) := by rw [hb]; exact d4
  have hstr' : vk_R own is text sa s' := vk_R.warm hW0 hstr
  obtain ⟨U, hsteps, hrun, hend, hW, hsame, ce, hce, hO⟩ := X₁.ctorThrowS hexec htr (own := own) (cls := cls) (names := names) (ic := ic) hown' hcls hnames h (fun x hx => nomatch hx) hfX hkX hcellA (by rw [hhp, hT]; exact Nat.le_refl _) (msg := .ref sa) rfl
    (g := { method := m, pc := pc + 7, locals := ls, stack := .ref sa :: .ref T.heap.size :: .ref T.heap.size :: rest, locked := none }) rfl hsize rfl rfl (rest := rest) rfl
    (by rw [hb]; exact d7) (by rw [hb]; exact d10) hout hRframes (by simp only [List.map_cons, List.sum_cons, hcat]; omega) hlocks
  obtain ⟨f1, f2⟩ := vx_frame hsame
  rw [hhp] at f1 f2
  have hWs : s.WarmedH U.vm := State.WarmedH.trans hW0 hW
  have hcl : s.vm.findClass cls = some ce.cls := by
    have h9 := hO.cls
    rw [hvm] at h9
    exact h9
  have hall : s.sameButNew ({ U with vm := s.vm } : State) locs mc ms := by
    subst hA
    obtain ⟨e1, e2⟩ := hsame
    rw [State.setFrames_setFrames] at e1
    have h2 : (T.setVm s.vm).sameButNew ({ U with vm := s.vm } : State) [] (0 + 1) (0 + 6) := ⟨e1, e2⟩
    have h3 := X.same.trans h2
    rw [List.append_nil] at h3
    exact h3.mono hc hs
  refine ⟨U, ?_, .threw T.heap.size, hrun, hend, Or.inr ⟨T.heap.size, rfl, cls, ce, locs, hx U hWs.alike f1 (fun q hq => f2 q hq (fun z hz => nomatch hz)), hce, hO.vm, hcl, hWs, hall, hf⟩⟩
  refine st1 _ ?_
  show Steps p.tables e below (T1.setTop { method := m, pc := pc + 3, locals := ls, stack := .ref T.heap.size :: rest, locked := none }) _
  jvm_step X₁.here [X₁.here.top, hexec, d3', Value.category]
  exact X₁.ldcStringW hexec (own := own) (text := text) (index := is) (a := sa) hown' hstr'.1 hstr'.2
    (g := { method := m, pc := pc + 4, locals := ls, stack := .ref T.heap.size :: .ref T.heap.size :: rest, locked := none }) rfl d4' _ hsteps
end Ends
section Bodies
variable {l : Launch}
theorem vx_ofW {y : MethodName} {ws ws' : List Cond} {rm : Room} {Pc : Array Value → State → Prop} {Qc : Array Value → State → Outcome → State → Prop} {XC : String → State → State → Prop} {mc ms : Nat} {free : Addr → Prop} {cc : ByteArray} {maxL : Nat} {ret : Option FieldType}
    (hy : plainName y.cls = true) (hw : ws = Cond.code y cc maxL ret :: ws')
    (body : ∀ p e s m args below meth c s₁, BodyLoose p l y (headSpec ws rm) cc maxL ret e s m args below meth c s₁ → c.maxLocals = maxL → (∀ x ∈ c.exceptionTable.toList, False) → Pc args s →
      W p l e (headSpec ws rm).room s m args below meth c s.heap [] 0 0 (vx_MQ below Qc XC args s mc ms free) (entryFrame m args maxL)) : vx_Met l y ws rm Pc Qc XC mc ms free := by
  refine MetFree.of_bodyS (code := cc) (maxLocals := maxL) (ret := ret) hy ?_ ?_
  · intro args s m h hn
    obtain ⟨meth, c, h1, h2, h3, h4, h5, h6, -, -⟩ := Cond.code_spec hn (atoms_spec (ws := ws) h _ (by rw [hw]; exact List.mem_cons_self))
    exact ⟨meth, c, h1, h2, h3, h4, h5, h6⟩
  · intro p e s m args below meth c s₁ B hml hP _
    have hh0 : s₁.heap = s.heap := by rw [B.state]; rfl
    have ht : ∀ x ∈ c.exceptionTable.toList, False := by
      obtain ⟨meth9, c9, h1, h2, -, -, -, -, h7, -⟩ := Cond.code_spec B.named (atoms_spec (ws := ws) B.pre _ (by rw [hw]; exact List.mem_cons_self))
      cases Option.some.inj (h1.symm.trans B.method)
      cases Option.some.inj (h2.symm.trans (Stand.of_body B).code)
      intro x hx
      rw [Array.isEmpty_iff.mp h7] at hx
      cases hx
    obtain ⟨t, a1, o, b1, b2, b3⟩ := body p e s m args below meth c s₁ B hml ht hP s₁ hh0 (Stand.of_body B)
    exact ⟨t, o, a1, b1, b2, b3⟩
/-- the table of a body with handlers -/
theorem vx_table {p : Program} {x y : MethodName} {S : Spec} {cc bytes : ByteArray} {maxL maxL' : Nat} {ret ret' : Option FieldType} {e : Env} {s s₁ : State} {m : MethodId} {args : Array Value} {below : List Frame} {meth : Method} {c : Code} {hh : List (Nat × Nat × Nat × Nat)}
    (B : BodyLoose p l y S cc maxL ret e s m args below meth c s₁) (h : (Cond.codeWith y bytes maxL' ret' hh).before args s = true) : c.exceptionTable.toList = tableOf hh := by
  obtain ⟨m9, meth9, c9, hn9, h1, h2, -, -, h6, -⟩ := Cond.codeWith_spec h
  cases Option.some.inj (hn9.symm.trans B.named)
  cases Option.some.inj (h1.symm.trans B.method)
  cases Option.some.inj (h2.symm.trans (Stand.of_body B).code)
  rw [← h6, table_eq]
end Bodies
end VXA
/-! ===== END ===== -/
/-! ===== BEGIN a static call of a method with an exception table ===== -/
section VXS
variable {p : Program} {l : Launch} {e : Env} {R : Room} {s : State} {m : MethodId} {args : Array Value} {below : List Frame} {meth : Method} {c : Code} {T : State} {H : Heap} {locs : List Loc} {cells slots : Nat}
abbrev vx_CSW (R : Room) (s : State) (args : Array Value) (own : String) (index : Nat) (y : MethodName) (bytes : ByteArray) (maxL : Nat) (ret : Option FieldType) (hh : List (Nat × Nat × Nat × Nat)) (ws : List Cond) (rm : Room) (mc ms n : Nat) : Prop :=
  (rm.cells = mc ∧ rm.slots = ms ∧ rm.frames + 1 ≤ R.frames ∧ 8 + (maxL + 11) + rm.locals ≤ R.locals ∧ (∀ w ∈ ws, ∀ (a' : Array Value) (U : State), s.WarmedH U.vm → w.before a' U = true) ∧ Cond.codeWith y bytes maxL ret hh ∈ ws) ∧
  (Cond.codeWith y bytes maxL ret hh).before args s = true ∧ (Cond.initialized y.cls).before args s = true ∧ (y.cls ≠ "java/lang/invoke/MethodHandle" ∧ y.cls ≠ "java/lang/invoke/VarHandle") ∧
  (∀ sig, parseMethodDescriptor y.desc = some sig → n = sig.parameters.length) ∧ (Cond.methodLink own index y).before args s = true ∧ (Cond.static y).before args s = true
theorem vx_cwSW {own : String} {index maxL mc ms : Nat} {y : MethodName} {bytes : ByteArray} {ret : Option FieldType} {hh : List (Nat × Nat × Nat × Nat)} {Ts ws ws' : List Cond} {rm : Room} (n : Nat) (ht : ∀ w ∈ Ts, w.before args s = true) (hT : GoodIn Ts (va_wsS own index y ws)) (hw : ws = Cond.codeWith y bytes maxL ret hh :: ws') (hrc : rm.cells = mc) (hrs : rm.slots = ms)
    (hd : y.cls ≠ "java/lang/invoke/MethodHandle" ∧ y.cls ≠ "java/lang/invoke/VarHandle" ∧ (parseMethodDescriptor y.desc).map (fun d => d.parameters.length) = some n) (hR : rm.frames + 1 ≤ R.frames ∧ 8 + (maxL + 11) + rm.locals ≤ R.locals) :
    vx_CSW R s args own index y bytes maxL ret hh ws rm mc ms n := by
  have ok : ∀ w ∈ va_wsS own index y ws, w.before args s = true := fun w h => ht w (hT w h).1
  have hG : GoodIn Ts ws := fun w h => hT w (by unfold va_wsS; exact List.mem_append_right _ h)
  have hc : Cond.codeWith y bytes maxL ret hh ∈ ws := by rw [hw]; exact List.mem_cons_self
  refine ⟨⟨hrc, hrs, hR.1, hR.2, pay_in ht hG, hc⟩, ht _ (hG _ hc).1, ok _ (by simp [va_wsS]), ⟨hd.1, hd.2.1⟩, fun sig h => ?_, ok _ (by simp [va_wsS]), ok _ (by simp [va_wsS])⟩
  have h2 := hd.2.2
  rw [h] at h2
  exact (Option.some.inj h2).symm
theorem vx_callSW (X : Stand p l e R s m args below meth c T locs cells slots) (hexec : p.tables.exec = Jvm.exec) {own : String} {index : Nat} {y : MethodName} {bytes : ByteArray} {maxL : Nat} {ret : Option FieldType} {hh : List (Nat × Nat × Nat × Nat)}
    (hown : s.vm.findClass own = some m.cls) (hlink : (Cond.methodLink own index y).before args s = true) (hstat : (Cond.static y).before args s = true) (hinit : (Cond.initialized y.cls).before args s = true)
    (hcode : (Cond.codeWith y bytes maxL ret hh).before args s = true) (hy : y.cls ≠ "java/lang/invoke/MethodHandle" ∧ y.cls ≠ "java/lang/invoke/VarHandle")
    {W9 : Nat} {Pre : Pt → Array Value → Prop} {Post : Pt → Array Value → Option Value → Pt → Prop} (hK : Back l R p e below s args y 3 W9 Pre Post)
    {g : JFrame} (hg : g.method = m) (hsize : g.locals.size = c.maxLocals) {argsL rest : List Value} (hlen : ∀ sig, parseMethodDescriptor y.desc = some sig → argsL.length = sig.parameters.length)
    (hstack : g.stack = argsL.reverse ++ rest) (hW : 2 * g.monitorRoom + (rest.map fun v => v.category).sum ≤ W9) (hdg : decode c.code g.pc = .ok (.invokestatic index, 3))
    (hpre : ∀ vm₁, s.WarmedH vm₁ → Pre ⟨T.setVm vm₁, locs, cells, slots⟩ argsL.toArray) :
    ∃ (v : Option Value) (vm₁ : Vm) (B : Pt), s.WarmedH vm₁ ∧ Stand p l e R s m args below meth c B.U B.locs B.cells B.slots ∧ Post ⟨T.setVm vm₁, locs, cells, slots⟩ argsL.toArray v B ∧
      ∀ target, Steps p.tables e below (B.U.setTop { g with pc := g.pc + 3, stack := v.toList ++ rest }) target → Steps p.tables e below (T.setTop g) target := by
  obtain ⟨mk, methM, cM, hnamed, hmethM, -, -, -, -, -, -, hsigM⟩ := Cond.codeWith_spec hcode
  have hstatic : methM.isStatic = true := Cond.static_spec hnamed hmethM hstat
  obtain ⟨kP, hkP, -⟩ := className_of_methodNamed hnamed
  have hinitP : kP.init = .initialized := Cond.initialized_spec (findClass_of_methodNamed hnamed) hkP hinit
  obtain ⟨vm₁, X₁, hstep₁⟩ := X.invokestatic hexec hown hlink hnamed hmethM hstatic hkP hinitP hy (g := g) hg (argsL := argsL) (rest := rest) (hlen _ hsigM) hstack hdg
  obtain ⟨v, B, X', hpost, hsteps⟩ := hK m meth c ⟨T.setVm vm₁, locs, cells, slots⟩ { g with stack := rest } (.invokestatic index) mk argsL.toArray X₁ hg hsize hdg hW (X₁.named hnamed) (hpre vm₁ X₁.warmed)
  exact ⟨v, vm₁, B, X₁.warmed, X', hpost, fun target h => hstep₁ _ fun acts => by rw [doInvoke_state]; exact hsteps.trans h⟩
theorem vx_runSW {y : MethodName} {bytes cc : ByteArray} {maxL nL mc ms n index : Nat} {ret : Option FieldType} {hh : List (Nat × Nat × Nat × Nat)} {ws : List Cond} {rm : Room} {Pc : Array Value → State → Prop} {Qc : Array Value → State → Outcome → State → Prop} {free : Addr → Prop} {Ts : List Cond} {own : String} {As rest : List Value} {g : JFrame}
    (S : CallFix p m c cc nL s args Ts own) (hM : Met l y ws rm Pc Qc mc ms free) (cw : vx_CSW R s args own index y bytes maxL ret hh ws rm mc ms n) (hp : PreS s H Pc As)
    (hg : g.method = m) (hn : As.length = n) (hsize : g.locals.size = nL) (hstack : g.stack = As.reverse ++ rest) (hW : 2 * g.monitorRoom + (rest.map fun v => v.category).sum ≤ 8) (hdg : decode cc g.pc = .ok (.invokestatic index, 3)) (hf : cells + mc ≤ R.cells ∧ slots + ms ≤ R.slots) :
    va_Run p l e R s m args below meth c H locs cells slots mc ms g rest (Qc As.toArray) (free) := by
  obtain ⟨⟨hrc, hrs, hfr, hlo, hws, hcw⟩, hcode, hini, hy, hlen, hl, hstt⟩ := cw
  have hK : Back l R p e below s args y 3 8 (PreOf R mc ms Pc) (PostOf Qc mc ms free) := va_backW (hh := hh) (bytes := bytes) (maxL := maxL) (ret := ret) hM hp.1 hrc hrs hfr hlo hws hcw (fun a' U hW => word_at hW (Or.inl (by first | rfl | simp [Cond.onTables, Cond.keeps, Cond.steady])) hini)
  obtain ⟨hx, hb, hml, ho, -⟩ := S
  intro T hT X
  obtain ⟨v, vm₁, ⟨U', l2, c2, s2⟩, hW₁, X', ⟨g', mk, t, L, e1, e2, hq, h1, hL, h2, h3⟩, st⟩ := vx_callSW X hx (hh := hh) (bytes := bytes) (maxL := maxL) (ret := ret) ho hl hstt hini hcode hy hK hg (hsize.trans hml.symm) (argsL := As) (rest := rest) (fun sig h => hn.trans (hlen sig h)) hstack hW (by rw [hb]; exact hdg)
    (fun vm₁ hW₁ => ⟨hf.1, hf.2, hp.2 (T.setVm vm₁) hT hW₁⟩)
  dsimp only [Pt.U, Pt.locs, Pt.cells, Pt.slots] at X' e1 e2 h1 h2 h3 st
  subst h1; subst h2; subst h3
  exact ⟨v, (T.setVm vm₁).calling g' mk As.toArray, t, U', L, hT, X', hL, e1, e2, hq, st⟩
/-- not caught here, past rows that name other classes: it goes on to the caller -/
theorem vx_outP {p : Program} {l : Launch} {e : Env} {R : Room} {s : State} {m : MethodId} {args : Array Value} {below : List Frame} {meth : Method} {c : Code} {H : Heap} {locs : List Loc} {cells slots : Nat} {free : Addr → Prop} {ls : Array Slot} {rest : List Value} {Qc : Array Value → State → Outcome → State → Prop} {XC : String → State → State → Prop}
    {pc : Nat} {own E : String} {ce : Cell} {q : Addr} {mc ms : Nat} (hown : s.vm.findClass own = some m.cls) (hlocks : meth.locks = false)
    (hpass : ∀ z ∈ c.exceptionTable.toList, covers z pc = false ∨ (z.catchType ≠ 0 ∧ ∃ nm : String, (Cond.classLink own z.catchType nm).before args s = true ∧ va_Nc E nm s)) (hcell : H[q]? = some ce) (hv : ce.vm = .none) (hcl : s.vm.findClass E = some ce.cls)
    (hx : ∀ t : State, t.heap = H → s.vm.Alike t.vm → XC E s t) (hf : ∀ z ∈ locs, free z.base) (hc : cells ≤ mc) (hs : slots ≤ ms) :
    vx_W p l e R s m args below meth c H locs cells slots (vx_MQ below Qc XC args s mc ms free) (F0 m pc ls rest) q := by
  intro T hT X
  have hpl : e.platform.magicAccessors = ({} : Platform).magicAccessors := by rw [X.admits.platform]
  obtain ⟨vm', hW', X', st⟩ := X.outThrough hlocks q (g := F0 m pc ls rest) rfl rfl rfl (cell := ce) (by rw [hT]; exact hcell) (by rw [hv]; rfl)
    (by obtain ⟨k9, h9, -⟩ := Vm.findClass_spec hcl; exact ⟨k9, h9⟩) (fun z hz => by
      rcases hpass z hz with h | ⟨hz0, nm, hl1, hn1⟩
      · exact Or.inl h
      · obtain ⟨c6, hc6, hcl6⟩ := Cond.classLink_spec hown hl1 e.platform hpl
        obtain ⟨a8, b8, h1, h2, h3⟩ := hn1
        cases Option.some.inj (h1.symm.trans hcl)
        cases Option.some.inj (h2.symm.trans hc6)
        exact Or.inr ⟨hz0, _, hcl6, h3⟩)
  obtain ⟨g₀, hfr⟩ := X'.frames_eq
  have hcell9 : ((T.setVm vm').setFrames (.throwing q :: below)).heap[q]? = some ce := by
    show T.heap[q]? = some ce
    rw [hT]; exact hcell
  have hend : Ended ((T.setVm vm').setFrames (.throwing q :: below)) below (.threw q) := State.frames_setFrames _ (State.cur_lt_of_frames hfr)
  refine ⟨(T.setVm vm').setFrames (.throwing q :: below), ?_, .threw q, X'.here.running, hend, Or.inr ⟨q, rfl, E, ce, locs, hx _ hT (X'.ends _).1.alike, hcell9, hv, hcl, (X'.ends _).1, (X'.ends _).2.mono hc hs, hf⟩⟩
  rw [X.pushThrowing_eq]
  exact st
/-- a thing of a world lies in the heap -/
theorem vx_lt {D : va_G} {cl : List vw_C} {ws : va_W} {H1 : Heap} (h : va_P D cl ws H1) {k : Nat} {q : Nat × va_E} (hk : ws[k]? = some q) : q.1 < H1.size := (h k q hk).lt
end VXS
/-! ===== END ===== -/
/-! ===== BEGIN methods with a table of their own: called by a name, returning or throwing ===== -/
section VXH
/-! vx_backW, vx_callVX, vx_callSX, vx_callVW, vx_runVW, vx_runVX, vx_runSX, vx_ofWH follow the same proofs as their sisters above (Free/Laws.lean, Shelf42/LK1.lean); vx_outP calls Shelf42/NT130.lean (outThrough). -/
section
variable {l : Launch} {R : Room} {p : Program} {e : Env} {below : List Frame} {s : State} {sargs : Array Value} {y : MethodName} {len W9 : Nat}
theorem vx_backW {ws : List Cond} {rm : Room} {Pc : Array Value → State → Prop} {Qc : Array Value → State → Outcome → State → Prop} {XC : String → State → State → Prop} {mc ms : Nat} {free : Addr → Prop} {bytes : ByteArray} {maxL : Nat} {ret : Option FieldType} {hh : List (Nat × Nat × Nat × Nat)}
    (hM : vx_Met l y ws rm Pc Qc XC mc ms free) (hblind : FrameBlind Pc) (hrc : rm.cells = mc) (hrs : rm.slots = ms)
    (hframes : rm.frames + 1 ≤ R.frames) (hlocals : W9 + (maxL + 11) + rm.locals ≤ R.locals)
    (hws : ∀ w ∈ ws, ∀ a' U, s.WarmedH U.vm → w.before a' U = true) (hcode : Cond.codeWith y bytes maxL ret hh ∈ ws) (hinit : ∀ a' U, s.WarmedH U.vm → (Cond.initialized y.cls).before a' U = true) :
    vx_Back l R p e below s sargs y len W9 (PreOf R mc ms Pc) (PostOf Qc mc ms free) (vx_Post XC mc ms free) := by
  intro m meth c A g ig mk a X hg hsize hdg hW hn hp
  have h1 : (headSpec ws rm).pre.before a A.U = true := atoms_intro fun w hw => hws w hw _ _ X.warmed
  have h2 : (Cond.codeWith y bytes maxL ret hh).before a A.U = true := hws _ hcode _ _ X.warmed
  have h3 : (Cond.initialized y.cls).before a A.U = true := hinit _ _ X.warmed
  have h4 : A.cells + (headSpec ws rm).room.cells ≤ R.cells := by rw [show (headSpec ws rm).room.cells = mc from hrc]; exact hp.1
  have h5 : A.slots + (headSpec ws rm).room.slots ≤ R.slots := by rw [show (headSpec ws rm).room.slots = ms from hrs]; exact hp.2.1
  have hPc : Pc a (A.U.calling g mk a) := hblind _ _ _ _ hp.2.2
  obtain ⟨U, Ls, c0, s0⟩ := A
  dsimp only [Pt.U, Pt.locs, Pt.cells, Pt.slots] at h1 h2 h3 h4 h5 X hn hPc ⊢
  obtain ⟨m9, methY, cY, hn9, hmY, hcY, -, hlY, -⟩ := Cond.codeWith_spec h2
  cases Option.some.inj (hn9.symm.trans hn)
  obtain ⟨kY, hkY, -⟩ := className_of_methodNamed hn
  have hinitY : kY.init = .initialized := Cond.initialized_spec (findClass_of_methodNamed hn) hkY h3
  have h : At U g.method c below := by rw [hg]; exact X.here
  have hlocals9 : W9 + (maxL + 11) + (headSpec ws rm).room.locals ≤ R.locals := hlocals
  have happ : (headSpec ws rm).appliesLoose y e.platform (U.calling g mk a) = true :=
    Spec.appliesLoose_calling (g := g) h hdg hn hkY hinitY
      (X.room_calling (g := g) (R' := (headSpec ws rm).room) hsize hmY hcY hframes (by rw [hlY]; omega) h4 h5) h1
  obtain ⟨mid, hmid⟩ := h.above
  have hfr : (U.setTop g).frames = (.java g :: mid) ++ below := by rw [State.frames_setTop' g h.top, hmid]; rfl
  obtain ⟨o, s₂, hsteps, -, hend, hq⟩ := Steps.callFree hM p X.admits X.cas X.clock (acts := []) hfr happ hPc trivial
  have hq' : vx_Q Qc XC mc ms free a (U.calling g mk a) o s₂ := hq
  rw [State.frames_setTop' g h.top] at hend
  obtain ⟨g₀, hg0⟩ := Option.isSome_iff_exists.mp h.top
  obtain ⟨r, hr⟩ := State.topJava?_eq_some.mp hg0
  have hr' : (({ U with heap := s₂.heap, slotsUsed := s₂.slotsUsed } : State).setVm s₂.vm).frames = .java g₀ :: r := hr
  rcases hq' with ⟨hqc, L, hfe, hL⟩ | ⟨q, rfl, E, ce, L, hx, hce, hcv, hcl, hW₂, hsm, hL⟩
  · obtain ⟨⟨v, rfl⟩, hW₂, e2, q2, q3, q4, q5, q6⟩ := id hfe
    have e3 : s₂ = ({ (U.calling g mk a).setFrames s₂.frames with heap := s₂.heap, slotsUsed := s₂.slotsUsed } : State).setVm s₂.vm := by
      have : s₂ = ({ s₂ with vm := (U.calling g mk a).vm } : State).setVm s₂.vm := rfl
      rw [e2] at this
      exact this
    obtain ⟨c₂, i₂, len₂, hc₂, hd₂, hf₂⟩ := hend
    have hW' : U.WarmedH s₂.vm := hW₂
    have hcc : c₂ = c := by
      have h1 : s₂.code? g.method = U.code? g.method := by
        rw [State.code?_eq, State.code?_eq, hW'.alike.method?]
      exact Option.some.inj (hc₂.symm.trans (h1.trans h.code))
    subst hcc
    have hlen : len₂ = len := by rw [hdg] at hd₂; cases hd₂; rfl
    subst hlen
    have hs₂ : s₂ = (({ U with heap := s₂.heap, slotsUsed := s₂.slotsUsed } : State).setVm s₂.vm).setTop { g with pc := g.pc + len₂, stack := v.toList ++ g.stack } := by
      refine e3.trans ?_
      rw [hf₂, State.calling_eq h.top, State.setFrames_setFrames, State.setTop_of_frames _ hr', hr]
      rfl
    have hsame : U.sameButNew ({ U with heap := s₂.heap, slotsUsed := s₂.slotsUsed } : State) L mc ms := by
      refine ⟨?_, q2, q3, q4, q5, q6⟩
      obtain ⟨t, ht, -⟩ := State.frames_cons hr
      show ({ U with heap := s₂.heap, slotsUsed := s₂.slotsUsed } : State) = { U.setFrames U.frames with heap := s₂.heap, slotsUsed := s₂.slotsUsed }
      rw [State.setFrames_self ht]
    subst hg
    refine Or.inl ⟨v, ⟨(({ U with heap := s₂.heap, slotsUsed := s₂.slotsUsed } : State).setVm s₂.vm), Ls ++ L, c0 + mc, s0 + ms⟩,
      ⟨X.admits, X.cas, X.clock, X.frames, X.room, X.hears, X.method, X.code, (X.here.setHeapUsed s₂.heap s₂.slotsUsed).setVm hW'.alike, X.tail, State.WarmedH.trans X.warmed hW', X.limits, X.bytes, X.same.trans (hsame.setVm s.vm)⟩,
      ⟨g, mk, s₂, L, rfl, rfl, hqc, rfl, hL, rfl, rfl⟩, ?_⟩
    show Steps p.tables e below _ ((({ U with heap := s₂.heap, slotsUsed := s₂.slotsUsed } : State).setVm s₂.vm).setTop { g with pc := g.pc + len₂, stack := v.toList ++ g.stack })
    rw [← hs₂]
    exact hsteps
  · obtain ⟨e2, q2, q3, q4, q5, q6⟩ := id hsm
    have e3 : s₂ = ({ (U.calling g mk a).setFrames s₂.frames with heap := s₂.heap, slotsUsed := s₂.slotsUsed } : State).setVm s₂.vm := by
      have : s₂ = ({ s₂ with vm := (U.calling g mk a).vm } : State).setVm s₂.vm := rfl
      rw [e2] at this
      exact this
    have hf₂ : s₂.frames = .throwing q :: .java g :: U.frames.tail := hend
    have hW' : U.WarmedH s₂.vm := hW₂
    have hs₂ : s₂ = ((({ U with heap := s₂.heap, slotsUsed := s₂.slotsUsed } : State).setVm s₂.vm).setTop g).pushFrame (.throwing q) := by
      refine e3.trans ?_
      rw [hf₂, State.calling_eq h.top, State.setFrames_setFrames, State.pushFrame, State.frames_setTop _ hr', State.setTop_of_frames _ hr', State.setFrames_setFrames, hr]
      rfl
    have hsame : U.sameButNew ({ U with heap := s₂.heap, slotsUsed := s₂.slotsUsed } : State) L mc ms := by
      refine ⟨?_, q2, q3, q4, q5, q6⟩
      obtain ⟨t, ht, -⟩ := State.frames_cons hr
      show ({ U with heap := s₂.heap, slotsUsed := s₂.slotsUsed } : State) = { U.setFrames U.frames with heap := s₂.heap, slotsUsed := s₂.slotsUsed }
      rw [State.setFrames_self ht]
    subst hg
    refine Or.inr ⟨q, ⟨(({ U with heap := s₂.heap, slotsUsed := s₂.slotsUsed } : State).setVm s₂.vm), Ls ++ L, c0 + mc, s0 + ms⟩,
      ⟨X.admits, X.cas, X.clock, X.frames, X.room, X.hears, X.method, X.code, (X.here.setHeapUsed s₂.heap s₂.slotsUsed).setVm hW'.alike, X.tail, State.WarmedH.trans X.warmed hW', X.limits, X.bytes, X.same.trans (hsame.setVm s.vm)⟩,
      ⟨g, mk, s₂, L, E, ce, rfl, rfl, hx, hce, hcv, hcl, rfl, hL, rfl, rfl⟩, ?_⟩
    show Steps p.tables e below _ (((({ U with heap := s₂.heap, slotsUsed := s₂.slotsUsed } : State).setVm s₂.vm).setTop g).pushFrame (.throwing q))
    rw [← hs₂]
    exact hsteps
end
variable {p : Program} {l : Launch} {e : Env} {R : Room} {s : State} {m : MethodId} {args : Array Value} {below : List Frame} {meth : Method} {c : Code} {T : State} {H : Heap} {locs : List Loc} {cells slots : Nat}
theorem vx_callVX (X : Stand p l e R s m args below meth c T locs cells slots) (hexec : p.tables.exec = Jvm.exec) {own C : String} {index : Nat} {y : MethodName} {bytes : ByteArray} {maxL : Nat} {ret : Option FieldType} {hh : List (Nat × Nat × Nat × Nat)}
    (hown : s.vm.findClass own = some m.cls) (hlink : (Cond.methodLink own index y).before args s = true) (hinst : (Cond.instanceMethod y).before args s = true) (hsel : (Cond.selects C y y).before args s = true)
    (hcode : (Cond.codeWith y bytes maxL ret hh).before args s = true) (hy : y.cls ≠ "java/lang/invoke/MethodHandle" ∧ y.cls ≠ "java/lang/invoke/VarHandle")
    {W9 : Nat} {Pre : Pt → Array Value → Prop} {Post : Pt → Array Value → Option Value → Pt → Prop} {PostX : Pt → Array Value → Addr → Pt → Prop} (hK : vx_Back l R p e below s args y 3 W9 Pre Post PostX)
    {b : Addr} {cellB : Cell} (hcell : T.heap[b]? = some cellB) (hobj : cellB.vm.isStatics = false) (hcls : s.vm.findClass C = some cellB.cls)
    {g : JFrame} (hg : g.method = m) (hsize : g.locals.size = c.maxLocals) {argsL rest : List Value} (hlen : ∀ sig, parseMethodDescriptor y.desc = some sig → argsL.length = sig.parameters.length)
    (hstack : g.stack = argsL.reverse ++ .ref b :: rest) (hW : 2 * g.monitorRoom + (rest.map fun v => v.category).sum ≤ W9) (hdg : decode c.code g.pc = .ok (.invokevirtual index, 3))
    (hpre : ∀ vm₁, s.WarmedH vm₁ → Pre ⟨T.setVm vm₁, locs, cells, slots⟩ (Value.ref b :: argsL).toArray) :
    (∃ (v : Option Value) (vm₁ : Vm) (B : Pt), s.WarmedH vm₁ ∧ Stand p l e R s m args below meth c B.U B.locs B.cells B.slots ∧ Post ⟨T.setVm vm₁, locs, cells, slots⟩ (Value.ref b :: argsL).toArray v B ∧
      ∀ target, Steps p.tables e below (B.U.setTop { g with pc := g.pc + 3, stack := v.toList ++ rest }) target → Steps p.tables e below (T.setTop g) target) ∨
    (∃ (q : Addr) (vm₁ : Vm) (B : Pt), s.WarmedH vm₁ ∧ Stand p l e R s m args below meth c B.U B.locs B.cells B.slots ∧ PostX ⟨T.setVm vm₁, locs, cells, slots⟩ (Value.ref b :: argsL).toArray q B ∧
      Steps p.tables e below (T.setTop g) ((B.U.setTop { g with stack := rest }).pushFrame (.throwing q))) := by
  obtain ⟨mk, methM, hnamed, hmethM, hstM, habM⟩ := Cond.instanceMethod_spec hinst
  obtain ⟨m8, methM', cM, hn8, hmethM', -, -, -, -, -, -, hsigM⟩ := Cond.codeWith_spec hcode
  cases Option.some.inj (hn8.symm.trans hnamed)
  cases hmethM.symm.trans hmethM'
  obtain ⟨c2, r2, m2, q1, q2, q3, q4, kP, hkP, hkPi⟩ := Cond.selects_spec hsel
  cases hcls.symm.trans q1
  cases (State.methodFound?_of_named hnamed hy).symm.trans q2
  cases hnamed.symm.trans q3
  have hselP : selectMethod e.platform s.vm cellB.cls mk = .method mk := by rw [Launch.admits_selectMethod X.admits]; exact q4
  obtain ⟨vm₁, X₁, hstep₁⟩ := X.invokevirtual hexec hown hlink hnamed hmethM hstM hkP hkPi hy (a := b) (cell := cellB) hcell
    (fun z h => by rw [h] at hobj; cases hobj) hselP hmethM habM hkP hkPi (g := g) hg (argsL := argsL) (rest := rest) (hlen _ hsigM) hstack hdg
  rcases hK m meth c ⟨T.setVm vm₁, locs, cells, slots⟩ { g with stack := rest } (.invokevirtual index) mk (Value.ref b :: argsL).toArray X₁ hg hsize hdg hW (X₁.named hnamed) (hpre vm₁ X₁.warmed) with ⟨v, B, X', hpost, hsteps⟩ | ⟨q, B, X', hpost, hsteps⟩
  · exact Or.inl ⟨v, vm₁, B, X₁.warmed, X', hpost, fun target h => hstep₁ _ fun acts => by rw [doInvoke_state]; exact hsteps.trans h⟩
  · exact Or.inr ⟨q, vm₁, B, X₁.warmed, X', hpost, hstep₁ _ fun acts => by rw [doInvoke_state]; exact hsteps⟩
theorem vx_callSX (X : Stand p l e R s m args below meth c T locs cells slots) (hexec : p.tables.exec = Jvm.exec) {own : String} {index : Nat} {y : MethodName} {bytes : ByteArray} {maxL : Nat} {ret : Option FieldType} {hh : List (Nat × Nat × Nat × Nat)}
    (hown : s.vm.findClass own = some m.cls) (hlink : (Cond.methodLink own index y).before args s = true) (hstat : (Cond.static y).before args s = true) (hinit : (Cond.initialized y.cls).before args s = true)
    (hcode : (Cond.codeWith y bytes maxL ret hh).before args s = true) (hy : y.cls ≠ "java/lang/invoke/MethodHandle" ∧ y.cls ≠ "java/lang/invoke/VarHandle")
    {W9 : Nat} {Pre : Pt → Array Value → Prop} {Post : Pt → Array Value → Option Value → Pt → Prop} {PostX : Pt → Array Value → Addr → Pt → Prop} (hK : vx_Back l R p e below s args y 3 W9 Pre Post PostX)
    {g : JFrame} (hg : g.method = m) (hsize : g.locals.size = c.maxLocals) {argsL rest : List Value} (hlen : ∀ sig, parseMethodDescriptor y.desc = some sig → argsL.length = sig.parameters.length)
    (hstack : g.stack = argsL.reverse ++ rest) (hW : 2 * g.monitorRoom + (rest.map fun v => v.category).sum ≤ W9) (hdg : decode c.code g.pc = .ok (.invokestatic index, 3))
    (hpre : ∀ vm₁, s.WarmedH vm₁ → Pre ⟨T.setVm vm₁, locs, cells, slots⟩ argsL.toArray) :
    (∃ (v : Option Value) (vm₁ : Vm) (B : Pt), s.WarmedH vm₁ ∧ Stand p l e R s m args below meth c B.U B.locs B.cells B.slots ∧ Post ⟨T.setVm vm₁, locs, cells, slots⟩ argsL.toArray v B ∧
      ∀ target, Steps p.tables e below (B.U.setTop { g with pc := g.pc + 3, stack := v.toList ++ rest }) target → Steps p.tables e below (T.setTop g) target) ∨
    (∃ (q : Addr) (vm₁ : Vm) (B : Pt), s.WarmedH vm₁ ∧ Stand p l e R s m args below meth c B.U B.locs B.cells B.slots ∧ PostX ⟨T.setVm vm₁, locs, cells, slots⟩ argsL.toArray q B ∧
      Steps p.tables e below (T.setTop g) ((B.U.setTop { g with stack := rest }).pushFrame (.throwing q))) := by
  obtain ⟨mk, methM, cM, hnamed, hmethM, -, -, -, -, -, -, hsigM⟩ := Cond.codeWith_spec hcode
  have hstatic : methM.isStatic = true := Cond.static_spec hnamed hmethM hstat
  obtain ⟨kP, hkP, -⟩ := className_of_methodNamed hnamed
  have hinitP : kP.init = .initialized := Cond.initialized_spec (findClass_of_methodNamed hnamed) hkP hinit
  obtain ⟨vm₁, X₁, hstep₁⟩ := X.invokestatic hexec hown hlink hnamed hmethM hstatic hkP hinitP hy (g := g) hg (argsL := argsL) (rest := rest) (hlen _ hsigM) hstack hdg
  rcases hK m meth c ⟨T.setVm vm₁, locs, cells, slots⟩ { g with stack := rest } (.invokestatic index) mk argsL.toArray X₁ hg hsize hdg hW (X₁.named hnamed) (hpre vm₁ X₁.warmed) with ⟨v, B, X', hpost, hsteps⟩ | ⟨q, B, X', hpost, hsteps⟩
  · exact Or.inl ⟨v, vm₁, B, X₁.warmed, X', hpost, fun target h => hstep₁ _ fun acts => by rw [doInvoke_state]; exact hsteps.trans h⟩
  · exact Or.inr ⟨q, vm₁, B, X₁.warmed, X', hpost, hstep₁ _ fun acts => by rw [doInvoke_state]; exact hsteps⟩
theorem vx_callVW (X : Stand p l e R s m args below meth c T locs cells slots) (hexec : p.tables.exec = Jvm.exec) {own C : String} {index : Nat} {y : MethodName} {bytes : ByteArray} {maxL : Nat} {ret : Option FieldType} {hh : List (Nat × Nat × Nat × Nat)}
    (hown : s.vm.findClass own = some m.cls) (hlink : (Cond.methodLink own index y).before args s = true) (hinst : (Cond.instanceMethod y).before args s = true) (hsel : (Cond.selects C y y).before args s = true)
    (hcode : (Cond.codeWith y bytes maxL ret hh).before args s = true) (hy : y.cls ≠ "java/lang/invoke/MethodHandle" ∧ y.cls ≠ "java/lang/invoke/VarHandle")
    {W9 : Nat} {Pre : Pt → Array Value → Prop} {Post : Pt → Array Value → Option Value → Pt → Prop} (hK : Back l R p e below s args y 3 W9 Pre Post)
    {b : Addr} {cellB : Cell} (hcell : T.heap[b]? = some cellB) (hobj : cellB.vm.isStatics = false) (hcls : s.vm.findClass C = some cellB.cls)
    {g : JFrame} (hg : g.method = m) (hsize : g.locals.size = c.maxLocals) {argsL rest : List Value} (hlen : ∀ sig, parseMethodDescriptor y.desc = some sig → argsL.length = sig.parameters.length)
    (hstack : g.stack = argsL.reverse ++ .ref b :: rest) (hW : 2 * g.monitorRoom + (rest.map fun v => v.category).sum ≤ W9) (hdg : decode c.code g.pc = .ok (.invokevirtual index, 3))
    (hpre : ∀ vm₁, s.WarmedH vm₁ → Pre ⟨T.setVm vm₁, locs, cells, slots⟩ (Value.ref b :: argsL).toArray) :
    ∃ (v : Option Value) (vm₁ : Vm) (B : Pt), s.WarmedH vm₁ ∧ Stand p l e R s m args below meth c B.U B.locs B.cells B.slots ∧ Post ⟨T.setVm vm₁, locs, cells, slots⟩ (Value.ref b :: argsL).toArray v B ∧
      ∀ target, Steps p.tables e below (B.U.setTop { g with pc := g.pc + 3, stack := v.toList ++ rest }) target → Steps p.tables e below (T.setTop g) target := by
  obtain ⟨mk, methM, hnamed, hmethM, hstM, habM⟩ := Cond.instanceMethod_spec hinst
  obtain ⟨m8, methM', cM, hn8, hmethM', -, -, -, -, -, -, hsigM⟩ := Cond.codeWith_spec hcode
  cases Option.some.inj (hn8.symm.trans hnamed)
  cases hmethM.symm.trans hmethM'
  obtain ⟨c2, r2, m2, q1, q2, q3, q4, kP, hkP, hkPi⟩ := Cond.selects_spec hsel
  cases hcls.symm.trans q1
  cases (State.methodFound?_of_named hnamed hy).symm.trans q2
  cases hnamed.symm.trans q3
  have hselP : selectMethod e.platform s.vm cellB.cls mk = .method mk := by rw [Launch.admits_selectMethod X.admits]; exact q4
  obtain ⟨vm₁, X₁, hstep₁⟩ := X.invokevirtual hexec hown hlink hnamed hmethM hstM hkP hkPi hy (a := b) (cell := cellB) hcell
    (fun z h => by rw [h] at hobj; cases hobj) hselP hmethM habM hkP hkPi (g := g) hg (argsL := argsL) (rest := rest) (hlen _ hsigM) hstack hdg
  obtain ⟨v, B, X', hpost, hsteps⟩ := hK m meth c ⟨T.setVm vm₁, locs, cells, slots⟩ { g with stack := rest } (.invokevirtual index) mk (Value.ref b :: argsL).toArray X₁ hg hsize hdg hW (X₁.named hnamed) (hpre vm₁ X₁.warmed)
  exact ⟨v, vm₁, B, X₁.warmed, X', hpost, fun target h => hstep₁ _ fun acts => by rw [doInvoke_state]; exact hsteps.trans h⟩
abbrev vx_CVW (R : Room) (s : State) (args : Array Value) (own C : String) (index : Nat) (y : MethodName) (bytes : ByteArray) (maxL : Nat) (ret : Option FieldType) (hh : List (Nat × Nat × Nat × Nat)) (ws : List Cond) (rm : Room) (mc ms n : Nat) : Prop :=
  (rm.cells = mc ∧ rm.slots = ms ∧ rm.frames + 1 ≤ R.frames ∧ 8 + (maxL + 11) + rm.locals ≤ R.locals ∧ (∀ w ∈ ws, ∀ (a' : Array Value) (U : State), s.WarmedH U.vm → w.before a' U = true) ∧ Cond.codeWith y bytes maxL ret hh ∈ ws) ∧
  (Cond.codeWith y bytes maxL ret hh).before args s = true ∧ (Cond.initialized y.cls).before args s = true ∧ (y.cls ≠ "java/lang/invoke/MethodHandle" ∧ y.cls ≠ "java/lang/invoke/VarHandle") ∧
  (∀ sig, parseMethodDescriptor y.desc = some sig → n = sig.parameters.length) ∧ (Cond.methodLink own index y).before args s = true ∧ (Cond.instanceMethod y).before args s = true ∧ (Cond.selects C y y).before args s = true
theorem vx_cwVW {own C : String} {index maxL mc ms : Nat} {y : MethodName} {bytes : ByteArray} {ret : Option FieldType} {hh : List (Nat × Nat × Nat × Nat)} {Ts ws ws' : List Cond} {rm : Room} (n : Nat) (ht : ∀ w ∈ Ts, w.before args s = true) (hT : GoodIn Ts (wsV own index C y ws)) (hw : ws = Cond.codeWith y bytes maxL ret hh :: ws') (hrc : rm.cells = mc) (hrs : rm.slots = ms)
    (hd : y.cls = C ∧ y.cls ≠ "java/lang/invoke/MethodHandle" ∧ y.cls ≠ "java/lang/invoke/VarHandle" ∧ (parseMethodDescriptor y.desc).map (fun d => d.parameters.length) = some n) (hR : rm.frames + 1 ≤ R.frames ∧ 8 + (maxL + 11) + rm.locals ≤ R.locals) :
    vx_CVW R s args own C index y bytes maxL ret hh ws rm mc ms n := by
  obtain ⟨hC, hd⟩ := hd
  subst hC
  have ok : ∀ w ∈ wsV own index y.cls y ws, w.before args s = true := fun w h => ht w (hT w h).1
  have hG : GoodIn Ts ws := fun w h => hT w (by unfold wsV; exact List.mem_append_right _ h)
  have hc : Cond.codeWith y bytes maxL ret hh ∈ ws := by rw [hw]; exact List.mem_cons_self
  refine ⟨⟨hrc, hrs, hR.1, hR.2, pay_in ht hG, hc⟩, ht _ (hG _ hc).1, ok _ (by simp [wsV]), ⟨hd.1, hd.2.1⟩, fun sig h => ?_, ok _ (by simp [wsV]), ok _ (by simp [wsV]), ok _ (by simp [wsV])⟩
  have h2 := hd.2.2
  rw [h] at h2
  exact (Option.some.inj h2).symm
theorem vx_runVW {y : MethodName} {bytes cc : ByteArray} {maxL nL mc ms n index : Nat} {ret : Option FieldType} {hh : List (Nat × Nat × Nat × Nat)} {ws : List Cond} {rm : Room} {Pc : Array Value → State → Prop} {Qc : Array Value → State → Outcome → State → Prop} {free : Addr → Prop} {Ts : List Cond} {own C : String} {b : Addr} {As rest : List Value} {g : JFrame}
    (S : CallFix p m c cc nL s args Ts own) (hM : Met l y ws rm Pc Qc mc ms free) (cw : vx_CVW R s args own C index y bytes maxL ret hh ws rm mc ms n) (hp : PreV s H C b Pc As)
    (hg : g.method = m) (hn : As.length = n) (hsize : g.locals.size = nL) (hstack : g.stack = As.reverse ++ .ref b :: rest) (hW : 2 * g.monitorRoom + (rest.map fun v => v.category).sum ≤ 8) (hdg : decode cc g.pc = .ok (.invokevirtual index, 3)) (hf : cells + mc ≤ R.cells ∧ slots + ms ≤ R.slots) :
    va_Run p l e R s m args below meth c H locs cells slots mc ms g rest (Qc (Value.ref b :: As).toArray) free := by
  obtain ⟨⟨hrc, hrs, hfr, hlo, hws, hcw⟩, hcode, hini, hy, hlen, hl, hin, hse⟩ := cw
  have hK : Back l R p e below s args y 3 8 (PreOf R mc ms Pc) (PostOf Qc mc ms free) := va_backW (hh := hh) (bytes := bytes) (maxL := maxL) (ret := ret) hM hp.1 hrc hrs hfr hlo hws hcw (fun a' U hW => word_at hW (Or.inl (by first | rfl | simp [Cond.onTables, Cond.keeps, Cond.steady])) hini)
  obtain ⟨hx, hb, hml, ho, -⟩ := S
  obtain ⟨-, ⟨cellB, hcB, hoB, hclB⟩, hPc⟩ := hp
  intro T hT X
  obtain ⟨v, vm₁, ⟨U', l2, c2, s2⟩, hW₁, X', ⟨g', mk, t, L, e1, e2, hq, h1, hL, h2, h3⟩, st⟩ := vx_callVW X hx (C := C) (hh := hh) (bytes := bytes) (maxL := maxL) (ret := ret) ho hl hin hse hcode hy hK (by rw [hT]; exact hcB) hoB hclB hg (hsize.trans hml.symm) (argsL := As) (rest := rest) (fun sig h => hn.trans (hlen sig h)) hstack hW (by rw [hb]; exact hdg)
    (fun vm₁ hW₁ => ⟨hf.1, hf.2, hPc (T.setVm vm₁) hT hW₁⟩)
  dsimp only [Pt.U, Pt.locs, Pt.cells, Pt.slots] at X' e1 e2 h1 h2 h3 st
  subst h1; subst h2; subst h3
  exact ⟨v, (T.setVm vm₁).calling g' mk (Value.ref b :: As).toArray, t, U', L, hT, X', hL, e1, e2, hq, st⟩
section
variable {y : MethodName} {bytes cc : ByteArray} {maxL nL mc ms n index : Nat} {ret : Option FieldType} {ws : List Cond} {rm : Room} {Pc : Array Value → State → Prop} {Qc : Array Value → State → Outcome → State → Prop} {XC : String → State → State → Prop} {free : Addr → Prop} {Ts : List Cond} {own C : String} {b : Addr} {As rest : List Value} {g : JFrame}
theorem vx_runVX {hh : List (Nat × Nat × Nat × Nat)} (S : CallFix p m c cc nL s args Ts own) (hM : vx_Met l y ws rm Pc Qc XC mc ms free) (cw : vx_CVW R s args own C index y bytes maxL ret hh ws rm mc ms n) (hp : PreV s H C b Pc As)
    (hg : g.method = m) (hn : As.length = n) (hsize : g.locals.size = nL) (hstack : g.stack = As.reverse ++ .ref b :: rest) (hW : 2 * g.monitorRoom + (rest.map fun v => v.category).sum ≤ 8) (hdg : decode cc g.pc = .ok (.invokevirtual index, 3)) (hf : cells + mc ≤ R.cells ∧ slots + ms ≤ R.slots) :
    vx_Run p l e R s m args below meth c H locs cells slots mc ms g rest (Qc (Value.ref b :: As).toArray) XC free := by
  obtain ⟨⟨hrc, hrs, hfr, hlo, hws, hcw⟩, hcode, hini, hy, hlen, hl, hin, hse⟩ := cw
  have hK : vx_Back l R p e below s args y 3 8 (PreOf R mc ms Pc) (PostOf Qc mc ms free) (vx_Post XC mc ms free) := vx_backW (hh := hh) (bytes := bytes) (maxL := maxL) (ret := ret) hM hp.1 hrc hrs hfr hlo hws hcw (fun a' U hW => word_at hW (Or.inl (by first | rfl | simp [Cond.onTables, Cond.keeps, Cond.steady])) hini)
  obtain ⟨hx, hb, hml, ho, -⟩ := S
  obtain ⟨-, ⟨cellB, hcB, hoB, hclB⟩, hPc⟩ := hp
  intro T hT X
  rcases vx_callVX X hx (C := C) (hh := hh) (bytes := bytes) (maxL := maxL) (ret := ret) ho hl hin hse hcode hy hK (by rw [hT]; exact hcB) hoB hclB hg (hsize.trans hml.symm) (argsL := As) (rest := rest) (fun sig h => hn.trans (hlen sig h)) hstack hW (by rw [hb]; exact hdg)
    (fun vm₁ hW₁ => ⟨hf.1, hf.2, hPc (T.setVm vm₁) hT hW₁⟩) with ⟨v, vm₁, ⟨U', l2, c2, s2⟩, hW₁, X', ⟨g', mk, t, L, e1, e2, hq, h1, hL, h2, h3⟩, st⟩ | ⟨q, vm₁, ⟨U', l2, c2, s2⟩, hW₁, X', ⟨g', mk, t, L, E, ce, e1, e2, hq, hce, hcv, hcl, h1, hL, h2, h3⟩, st⟩
  · dsimp only [Pt.U, Pt.locs, Pt.cells, Pt.slots] at X' e1 e2 h1 h2 h3 st
    subst h1; subst h2; subst h3
    exact Or.inl ⟨v, (T.setVm vm₁).calling g' mk (Value.ref b :: As).toArray, t, U', L, hT, X', hL, e1, e2, hq, st⟩
  · dsimp only [Pt.U, Pt.locs, Pt.cells, Pt.slots] at X' e1 e2 h1 h2 h3 st hcl
    subst h1; subst h2; subst h3
    exact Or.inr ⟨q, (T.setVm vm₁).calling g' mk (Value.ref b :: As).toArray, t, U', L, E, ce, hT, X', hL, e1, e2, hq, hce, hcv, vx_cls hW₁ hcl, st⟩
theorem vx_runSX {hh : List (Nat × Nat × Nat × Nat)} (S : CallFix p m c cc nL s args Ts own) (hM : vx_Met l y ws rm Pc Qc XC mc ms free) (cw : vx_CSW R s args own index y bytes maxL ret hh ws rm mc ms n) (hp : PreS s H Pc As)
    (hg : g.method = m) (hn : As.length = n) (hsize : g.locals.size = nL) (hstack : g.stack = As.reverse ++ rest) (hW : 2 * g.monitorRoom + (rest.map fun v => v.category).sum ≤ 8) (hdg : decode cc g.pc = .ok (.invokestatic index, 3)) (hf : cells + mc ≤ R.cells ∧ slots + ms ≤ R.slots) :
    vx_Run p l e R s m args below meth c H locs cells slots mc ms g rest (Qc As.toArray) XC free := by
  obtain ⟨⟨hrc, hrs, hfr, hlo, hws, hcw⟩, hcode, hini, hy, hlen, hl, hstt⟩ := cw
  have hK : vx_Back l R p e below s args y 3 8 (PreOf R mc ms Pc) (PostOf Qc mc ms free) (vx_Post XC mc ms free) := vx_backW (hh := hh) (bytes := bytes) (maxL := maxL) (ret := ret) hM hp.1 hrc hrs hfr hlo hws hcw (fun a' U hW => word_at hW (Or.inl (by first | rfl | simp [Cond.onTables, Cond.keeps, Cond.steady])) hini)
  obtain ⟨hx, hb, hml, ho, -⟩ := S
  intro T hT X
  rcases vx_callSX X hx (hh := hh) (bytes := bytes) (maxL := maxL) (ret := ret) ho hl hstt hini hcode hy hK hg (hsize.trans hml.symm) (argsL := As) (rest := rest) (fun sig h => hn.trans (hlen sig h)) hstack hW (by rw [hb]; exact hdg)
    (fun vm₁ hW₁ => ⟨hf.1, hf.2, hp.2 (T.setVm vm₁) hT hW₁⟩) with ⟨v, vm₁, ⟨U', l2, c2, s2⟩, hW₁, X', ⟨g', mk, t, L, e1, e2, hq, h1, hL, h2, h3⟩, st⟩ | ⟨q, vm₁, ⟨U', l2, c2, s2⟩, hW₁, X', ⟨g', mk, t, L, E, ce, e1, e2, hq, hce, hcv, hcl, h1, hL, h2, h3⟩, st⟩
  · dsimp only [Pt.U, Pt.locs, Pt.cells, Pt.slots] at X' e1 e2 h1 h2 h3 st
    subst h1; subst h2; subst h3
    exact Or.inl ⟨v, (T.setVm vm₁).calling g' mk As.toArray, t, U', L, hT, X', hL, e1, e2, hq, st⟩
  · dsimp only [Pt.U, Pt.locs, Pt.cells, Pt.slots] at X' e1 e2 h1 h2 h3 st hcl
    subst h1; subst h2; subst h3
    exact Or.inr ⟨q, (T.setVm vm₁).calling g' mk As.toArray, t, U', L, E, ce, hT, X', hL, e1, e2, hq, hce, hcv, vx_cls hW₁ hcl, st⟩
end
end VXH
theorem vx_ofWH {l : Launch} {y : MethodName} {ws ws' : List Cond} {rm : Room} {Pc : Array Value → State → Prop} {Qc : Array Value → State → Outcome → State → Prop} {XC : String → State → State → Prop} {mc ms : Nat} {free : Addr → Prop} {cc : ByteArray} {maxL : Nat} {ret : Option FieldType} {hh : List (Nat × Nat × Nat × Nat)}
    (hy : plainName y.cls = true) (hw : ws = Cond.codeWith y cc maxL ret hh :: ws')
    (body : ∀ p e s m args below meth c s₁, BodyLoose p l y (headSpec ws rm) cc maxL ret e s m args below meth c s₁ → c.maxLocals = maxL → Pc args s →
      W p l e (headSpec ws rm).room s m args below meth c s.heap [] 0 0 (vx_MQ below Qc XC args s mc ms free) (entryFrame m args maxL)) : vx_Met l y ws rm Pc Qc XC mc ms free := by
  refine MetFree.of_bodyS (code := cc) (maxLocals := maxL) (ret := ret) hy ?_ ?_
  · intro args s m h hn
    obtain ⟨m9, meth, c, hn9, h1, h2, h3, h4, -, h5, h6, -⟩ := Cond.codeWith_spec (atoms_spec (ws := ws) h _ (by rw [hw]; exact List.mem_cons_self))
    cases hn.symm.trans hn9
    exact ⟨meth, c, h1, h2, h3, h4, h5, h6⟩
  · intro p e s m args below meth c s₁ B hml hP _
    have hh0 : s₁.heap = s.heap := by rw [B.state]; rfl
    obtain ⟨t, a1, o, b1, b2, b3⟩ := body p e s m args below meth c s₁ B hml hP s₁ hh0 (Stand.of_body B)
    exact ⟨t, o, a1, b1, b2, b3⟩
/-! ===== END ===== -/

/-! ===== BEGIN printed: names, fields, word lists, decode rows ===== -/
def RX0 : String := "DroopBoard$Board"
def TX0 : u_T := fun k => match k with
  | 0 => ("DroopBoard$Board", "diesels", "[LDroopBoard$Diesel;", true)
  | 1 => ("DroopBoard$Board", "feeders", "[LDroopBoard$Feeder;", true)
  | 2 => ("DroopBoard$Board", "settings", "[I", true)
  | 3 => ("DroopBoard$Board", "ticks", "I", false)
  | _ => ("DroopBoard$Board", "energy", "I", false)
def tyX0 : Nat → FieldType := fun k => match k with
  | 0 => .array (.object "DroopBoard$Diesel")
  | 1 => .array (.object "DroopBoard$Feeder")
  | 2 => .array .int
  | 3 => .int
  | _ => .int
abbrev wsX00 : List Cond := u_ws RX0 TX0 5
theorem nmX0 : ∀ a, a < 5 → ∀ b, b < 5 → a ≠ b → (TX0 a).2.1 ≠ (TX0 b).2.1 := by decide +kernel
theorem tyX0_ok : ∀ k, k < 5 → parseFieldDescriptor (TX0 k).2.2.1 = some (tyX0 k) := by decide +kernel
abbrev cX0_init : ByteArray := prog_2_method_1_code
def yX0_init : MethodName := ⟨RX0, "<init>", "()V"⟩
abbrev cX0_copyFrom : ByteArray := prog_2_method_2_code
def yX0_copyFrom : MethodName := ⟨RX0, "copyFrom", "(LDroopBoard$Board;)V"⟩
abbrev cX0_alive : ByteArray := prog_2_method_3_code
def yX0_alive : MethodName := ⟨RX0, "alive", "()Z"⟩
abbrev cX0_lowestClosed : ByteArray := prog_2_method_4_code
def yX0_lowestClosed : MethodName := ⟨RX0, "lowestClosed", "()I"⟩
abbrev cX0_demand : ByteArray := prog_2_method_5_code
def yX0_demand : MethodName := ⟨RX0, "demand", "()I"⟩
abbrev cX0_total : ByteArray := prog_2_method_6_code
def yX0_total : MethodName := ⟨RX0, "total", "(I)I"⟩
abbrev cX0_frequency : ByteArray := prog_2_method_7_code
def yX0_frequency : MethodName := ⟨RX0, "frequency", "()I"⟩
abbrev cX0_frequencyDownwards : ByteArray := prog_2_method_8_code
def yX0_frequencyDownwards : MethodName := ⟨RX0, "frequencyDownwards", "()I"⟩
abbrev cX0_power : ByteArray := prog_2_method_9_code
def yX0_power : MethodName := ⟨RX0, "power", "(II)I"⟩
abbrev cX0_powers : ByteArray := prog_2_method_10_code
def yX0_powers : MethodName := ⟨RX0, "powers", "(I)I"⟩
abbrev cX0_lack : ByteArray := prog_2_method_11_code
def yX0_lack : MethodName := ⟨RX0, "lack", "(I)I"⟩
abbrev cX0_whyNotClosed : ByteArray := prog_2_method_12_code
def yX0_whyNotClosed : MethodName := ⟨RX0, "whyNotClosed", "(I)I"⟩
abbrev cX0_passTicks : ByteArray := prog_2_method_13_code
def yX0_passTicks : MethodName := ⟨RX0, "passTicks", "(I)I"⟩
abbrev cX0_tick : ByteArray := prog_2_method_14_code
def yX0_tick : MethodName := ⟨RX0, "tick", "()I"⟩
abbrev cX0_shed : ByteArray := prog_2_method_15_code
def yX0_shed : MethodName := ⟨RX0, "shed", "()V"⟩
abbrev cX0_trip : ByteArray := prog_2_method_16_code
def yX0_trip : MethodName := ⟨RX0, "trip", "()I"⟩
abbrev cX0_running : ByteArray := prog_2_method_17_code
def yX0_running : MethodName := ⟨RX0, "running", "()I"⟩
abbrev cX0_closedBreakers : ByteArray := prog_2_method_18_code
def yX0_closedBreakers : MethodName := ⟨RX0, "closedBreakers", "()I"⟩
abbrev cX0_ratingsClosed : ByteArray := prog_2_method_19_code
def yX0_ratingsClosed : MethodName := ⟨RX0, "ratingsClosed", "()I"⟩
abbrev cX0_trips : ByteArray := prog_2_method_20_code
def yX0_trips : MethodName := ⟨RX0, "trips", "()I"⟩
abbrev cX0_sheds : ByteArray := prog_2_method_21_code
def yX0_sheds : MethodName := ⟨RX0, "sheds", "()I"⟩
def RX1 : String := "DroopBoard$Diesel"
def TX1 : u_T := fun k => match k with
  | 0 => ("DroopBoard$Diesel", "rating", "I", false)
  | 1 => ("DroopBoard$Diesel", "droop", "I", false)
  | 2 => ("DroopBoard$Diesel", "speed", "I", false)
  | 3 => ("DroopBoard$Diesel", "runs", "Z", false)
  | 4 => ("DroopBoard$Diesel", "closed", "Z", false)
  | 5 => ("DroopBoard$Diesel", "phase", "I", false)
  | 6 => ("DroopBoard$Diesel", "overloaded", "I", false)
  | 7 => ("DroopBoard$Diesel", "driven", "I", false)
  | 8 => ("DroopBoard$Diesel", "energy", "I", false)
  | _ => ("DroopBoard$Diesel", "trips", "I", false)
def tyX1 : Nat → FieldType := fun k => match k with
  | 0 => .int
  | 1 => .int
  | 2 => .int
  | 3 => .boolean
  | 4 => .boolean
  | 5 => .int
  | 6 => .int
  | 7 => .int
  | 8 => .int
  | _ => .int
abbrev wsX10 : List Cond := u_ws RX1 TX1 10
theorem nmX1 : ∀ a, a < 10 → ∀ b, b < 10 → a ≠ b → (TX1 a).2.1 ≠ (TX1 b).2.1 := by decide +kernel
theorem tyX1_ok : ∀ k, k < 10 → parseFieldDescriptor (TX1 k).2.2.1 = some (tyX1 k) := by decide +kernel
abbrev cX1_init : ByteArray := prog_3_method_1_code
def yX1_init : MethodName := ⟨RX1, "<init>", "(I)V"⟩
abbrev cX1_copyFrom : ByteArray := prog_3_method_2_code
def yX1_copyFrom : MethodName := ⟨RX1, "copyFrom", "(LDroopBoard$Diesel;)V"⟩
abbrev cX1_canStart : ByteArray := prog_3_method_3_code
def yX1_canStart : MethodName := ⟨RX1, "canStart", "()Z"⟩
abbrev cX1_canStop : ByteArray := prog_3_method_4_code
def yX1_canStop : MethodName := ⟨RX1, "canStop", "()Z"⟩
abbrev cX1_start : ByteArray := prog_3_method_5_code
def yX1_start : MethodName := ⟨RX1, "start", "()V"⟩
abbrev cX1_stop : ByteArray := prog_3_method_6_code
def yX1_stop : MethodName := ⟨RX1, "stop", "()V"⟩
abbrev cX1_closeBreaker : ByteArray := prog_3_method_7_code
def yX1_closeBreaker : MethodName := ⟨RX1, "closeBreaker", "()V"⟩
abbrev cX1_openBreaker : ByteArray := prog_3_method_8_code
def yX1_openBreaker : MethodName := ⟨RX1, "openBreaker", "()V"⟩
abbrev cX1_beginAnew : ByteArray := prog_3_method_9_code
def yX1_beginAnew : MethodName := ⟨RX1, "beginAnew", "()V"⟩
abbrev cX1_lamps : ByteArray := prog_3_method_10_code
def yX1_lamps : MethodName := ⟨RX1, "lamps", "()I"⟩
abbrev cX1_gives : ByteArray := prog_3_method_11_code
def yX1_gives : MethodName := ⟨RX1, "gives", "(I)I"⟩
abbrev cX1_tick : ByteArray := prog_3_method_12_code
def yX1_tick : MethodName := ⟨RX1, "tick", "(II)V"⟩
def RX2 : String := "DroopBoard$Feeder"
def TX2 : u_T := fun k => match k with
  | 0 => ("DroopBoard$Feeder", "load", "I", false)
  | 1 => ("DroopBoard$Feeder", "on", "Z", false)
  | _ => ("DroopBoard$Feeder", "sheds", "I", false)
def tyX2 : Nat → FieldType := fun k => match k with
  | 0 => .int
  | 1 => .boolean
  | _ => .int
abbrev wsX20 : List Cond := u_ws RX2 TX2 3
theorem nmX2 : ∀ a, a < 3 → ∀ b, b < 3 → a ≠ b → (TX2 a).2.1 ≠ (TX2 b).2.1 := by decide +kernel
theorem tyX2_ok : ∀ k, k < 3 → parseFieldDescriptor (TX2 k).2.2.1 = some (tyX2 k) := by decide +kernel
abbrev cX2_init : ByteArray := prog_4_method_1_code
def yX2_init : MethodName := ⟨RX2, "<init>", "()V"⟩
abbrev cX2_copyFrom : ByteArray := prog_4_method_2_code
def yX2_copyFrom : MethodName := ⟨RX2, "copyFrom", "(LDroopBoard$Feeder;)V"⟩
def RX3 : String := "DroopBoard$History"
def TX3 : u_T := fun k => match k with
  | 0 => ("DroopBoard$History", "states", "[LDroopBoard$Board;", true)
  | _ => ("DroopBoard$History", "size", "I", false)
def tyX3 : Nat → FieldType := fun k => match k with
  | 0 => .array (.object "DroopBoard$Board")
  | _ => .int
abbrev wsX30 : List Cond := u_ws RX3 TX3 2
theorem nmX3 : ∀ a, a < 2 → ∀ b, b < 2 → a ≠ b → (TX3 a).2.1 ≠ (TX3 b).2.1 := by decide +kernel
theorem tyX3_ok : ∀ k, k < 2 → parseFieldDescriptor (TX3 k).2.2.1 = some (tyX3 k) := by decide +kernel
abbrev cX3_init : ByteArray := prog_5_method_1_code
def yX3_init : MethodName := ⟨RX3, "<init>", "()V"⟩
abbrev cX3_save : ByteArray := prog_5_method_2_code
def yX3_save : MethodName := ⟨RX3, "save", "(LDroopBoard$Board;)V"⟩
abbrev cX3_dropOldest : ByteArray := prog_5_method_3_code
def yX3_dropOldest : MethodName := ⟨RX3, "dropOldest", "()V"⟩
abbrev cX3_restore : ByteArray := prog_5_method_4_code
def yX3_restore : MethodName := ⟨RX3, "restore", "(LDroopBoard$Board;)V"⟩
def RX4 : String := "DroopBoard$OrderText"
def TX4 : u_T := fun k => match k with
  | 0 => ("DroopBoard$OrderText", "codes", "[I", true)
  | _ => ("DroopBoard$OrderText", "length", "I", false)
def tyX4 : Nat → FieldType := fun k => match k with
  | 0 => .array .int
  | _ => .int
abbrev wsX40 : List Cond := u_ws RX4 TX4 2
theorem nmX4 : ∀ a, a < 2 → ∀ b, b < 2 → a ≠ b → (TX4 a).2.1 ≠ (TX4 b).2.1 := by decide +kernel
theorem tyX4_ok : ∀ k, k < 2 → parseFieldDescriptor (TX4 k).2.2.1 = some (tyX4 k) := by decide +kernel
abbrev cX4_init : ByteArray := prog_6_method_1_code
def yX4_init : MethodName := ⟨RX4, "<init>", "()V"⟩
abbrev cX4_isFull : ByteArray := prog_6_method_2_code
def yX4_isFull : MethodName := ⟨RX4, "isFull", "()Z"⟩
abbrev cX4_add : ByteArray := prog_6_method_3_code
def yX4_add : MethodName := ⟨RX4, "add", "(I)V"⟩
abbrev cX4_codeAt : ByteArray := prog_6_method_4_code
def yX4_codeAt : MethodName := ⟨RX4, "codeAt", "(I)I"⟩
abbrev cX4_firstWrong : ByteArray := prog_6_method_5_code
def yX4_firstWrong : MethodName := ⟨RX4, "firstWrong", "()I"⟩
abbrev cX4_isComplete : ByteArray := prog_6_method_6_code
def yX4_isComplete : MethodName := ⟨RX4, "isComplete", "()Z"⟩
abbrev cX4_endOfPart : ByteArray := prog_6_method_7_code
def yX4_endOfPart : MethodName := ⟨RX4, "endOfPart", "(I)I"⟩
abbrev cX4_number : ByteArray := prog_6_method_8_code
def yX4_number : MethodName := ⟨RX4, "number", "(II)I"⟩
abbrev cX4_next : ByteArray := prog_6_method_9_code
def yX4_next : MethodName := ⟨RX4, "next", "(II)I"⟩
abbrev cX4_afterLetter : ByteArray := prog_6_method_10_code
def yX4_afterLetter : MethodName := ⟨RX4, "afterLetter", "(I)I"⟩
abbrev cX4_between : ByteArray := prog_6_method_11_code
def yX4_between : MethodName := ⟨RX4, "between", "(IIII)I"⟩
def RX5 : String := "DroopBoard"
def TX5 : u_T := fun k => match k with
  | 0 => ("DroopBoard", "board", "LDroopBoard$Board;", true)
  | 1 => ("DroopBoard", "trial", "LDroopBoard$Board;", true)
  | 2 => ("DroopBoard", "snapshot", "LDroopBoard$Board;", true)
  | 3 => ("DroopBoard", "hasSnapshot", "Z", false)
  | 4 => ("DroopBoard", "history", "LDroopBoard$History;", true)
  | _ => ("DroopBoard", "text", "LDroopBoard$OrderText;", true)
def tyX5 : Nat → FieldType := fun k => match k with
  | 0 => .object "DroopBoard$Board"
  | 1 => .object "DroopBoard$Board"
  | 2 => .object "DroopBoard$Board"
  | 3 => .boolean
  | 4 => .object "DroopBoard$History"
  | _ => .object "DroopBoard$OrderText"
abbrev wsX50 : List Cond := u_ws RX5 TX5 6
theorem nmX5 : ∀ a, a < 6 → ∀ b, b < 6 → a ≠ b → (TX5 a).2.1 ≠ (TX5 b).2.1 := by decide +kernel
theorem tyX5_ok : ∀ k, k < 6 → parseFieldDescriptor (TX5 k).2.2.1 = some (tyX5 k) := by decide +kernel
abbrev cX5_init : ByteArray := prog_1_method_1_code
def yX5_init : MethodName := ⟨RX5, "<init>", "()V"⟩
abbrev cX5_build : ByteArray := prog_1_method_2_code
def yX5_build : MethodName := ⟨RX5, "build", "(III)I"⟩
abbrev cX5_speed : ByteArray := prog_1_method_3_code
def yX5_speed : MethodName := ⟨RX5, "speed", "(II)I"⟩
abbrev cX5_run : ByteArray := prog_1_method_4_code
def yX5_run : MethodName := ⟨RX5, "run", "(I)I"⟩
abbrev cX5_halt : ByteArray := prog_1_method_5_code
def yX5_halt : MethodName := ⟨RX5, "halt", "(I)I"⟩
abbrev cX5_close : ByteArray := prog_1_method_6_code
def yX5_close : MethodName := ⟨RX5, "close", "(I)I"⟩
abbrev cX5_open : ByteArray := prog_1_method_7_code
def yX5_open : MethodName := ⟨RX5, "open", "(I)I"⟩
abbrev cX5_load : ByteArray := prog_1_method_8_code
def yX5_load : MethodName := ⟨RX5, "load", "(II)I"⟩
abbrev cX5_feeder : ByteArray := prog_1_method_9_code
def yX5_feeder : MethodName := ⟨RX5, "feeder", "(II)I"⟩
abbrev cX5_pass : ByteArray := prog_1_method_10_code
def yX5_pass : MethodName := ⟨RX5, "pass", "(I)I"⟩
abbrev cX5_set : ByteArray := prog_1_method_11_code
def yX5_set : MethodName := ⟨RX5, "set", "(II)I"⟩
abbrev cX5_append : ByteArray := prog_1_method_12_code
def yX5_append : MethodName := ⟨RX5, "append", "(I)I"⟩
abbrev cX5_clearBuffer : ByteArray := prog_1_method_13_code
def yX5_clearBuffer : MethodName := ⟨RX5, "clearBuffer", "()I"⟩
abbrev cX5_firstError : ByteArray := prog_1_method_14_code
def yX5_firstError : MethodName := ⟨RX5, "firstError", "()I"⟩
abbrev cX5_obey : ByteArray := prog_1_method_15_code
def yX5_obey : MethodName := ⟨RX5, "obey", "()I"⟩
abbrev cX5_keep : ByteArray := prog_1_method_16_code
def yX5_keep : MethodName := ⟨RX5, "keep", "()I"⟩
abbrev cX5_goBack : ByteArray := prog_1_method_17_code
def yX5_goBack : MethodName := ⟨RX5, "goBack", "()I"⟩
abbrev cX5_undo : ByteArray := prog_1_method_18_code
def yX5_undo : MethodName := ⟨RX5, "undo", "()I"⟩
abbrev cX5_diesel : ByteArray := prog_1_method_19_code
def yX5_diesel : MethodName := ⟨RX5, "diesel", "(II)I"⟩
abbrev cX5_line : ByteArray := prog_1_method_20_code
def yX5_line : MethodName := ⟨RX5, "line", "(II)I"⟩
abbrev cX5_count : ByteArray := prog_1_method_21_code
def yX5_count : MethodName := ⟨RX5, "count", "(I)I"⟩
abbrev cX5_setting : ByteArray := prog_1_method_22_code
def yX5_setting : MethodName := ⟨RX5, "setting", "(I)I"⟩
abbrev cX5_ifSpeed : ByteArray := prog_1_method_23_code
def yX5_ifSpeed : MethodName := ⟨RX5, "ifSpeed", "(III)I"⟩
abbrev cX5_closeIn : ByteArray := prog_1_method_24_code
def yX5_closeIn : MethodName := ⟨RX5, "closeIn", "(I)I"⟩
abbrev cX5_fairSpeed : ByteArray := prog_1_method_25_code
def yX5_fairSpeed : MethodName := ⟨RX5, "fairSpeed", "(I)I"⟩
abbrev cX5_nextTrip : ByteArray := prog_1_method_26_code
def yX5_nextTrip : MethodName := ⟨RX5, "nextTrip", "()I"⟩
abbrev cX5_loadShare : ByteArray := prog_1_method_27_code
def yX5_loadShare : MethodName := ⟨RX5, "loadShare", "()D"⟩
abbrev cX5_meanPower : ByteArray := prog_1_method_28_code
def yX5_meanPower : MethodName := ⟨RX5, "meanPower", "()F"⟩
abbrev cX5_digest : ByteArray := prog_1_method_29_code
def yX5_digest : MethodName := ⟨RX5, "digest", "()J"⟩
abbrev cX5_mixedWithSet : ByteArray := prog_1_method_30_code
def yX5_mixedWithSet : MethodName := ⟨RX5, "mixedWithSet", "(JI)J"⟩
abbrev cX5_mixed : ByteArray := prog_1_method_31_code
def yX5_mixed : MethodName := ⟨RX5, "mixed", "(JJ)J"⟩
abbrev cX5_isSet : ByteArray := prog_1_method_32_code
def yX5_isSet : MethodName := ⟨RX5, "isSet", "(I)Z"⟩
abbrev cX5_isFeeder : ByteArray := prog_1_method_33_code
def yX5_isFeeder : MethodName := ⟨RX5, "isFeeder", "(I)Z"⟩
abbrev cX5_needSet : ByteArray := prog_1_method_34_code
def yX5_needSet : MethodName := ⟨RX5, "needSet", "(I)V"⟩
abbrev cX5_needFeeder : ByteArray := prog_1_method_35_code
def yX5_needFeeder : MethodName := ⟨RX5, "needFeeder", "(I)V"⟩
abbrev cX5_needSetting : ByteArray := prog_1_method_36_code
def yX5_needSetting : MethodName := ⟨RX5, "needSetting", "(I)V"⟩
abbrev cX5_needRange : ByteArray := prog_1_method_37_code
def yX5_needRange : MethodName := ⟨RX5, "needRange", "(III)V"⟩
abbrev cX5_carryOut : ByteArray := prog_1_method_38_code
def yX5_carryOut : MethodName := ⟨RX5, "carryOut", "(II)Z"⟩
abbrev cX5_switchFeeder : ByteArray := prog_1_method_39_code
def yX5_switchFeeder : MethodName := ⟨RX5, "switchFeeder", "(IZ)Z"⟩
abbrev cX5_commandSet : ByteArray := prog_1_method_40_code
def yX5_commandSet : MethodName := ⟨RX5, "commandSet", "(II)Z"⟩
abbrev cX5_tellOfSet : ByteArray := prog_1_method_41_code
def yX5_tellOfSet : MethodName := ⟨RX5, "tellOfSet", "(II)I"⟩
abbrev cX5_tellOfFeeder : ByteArray := prog_1_method_42_code
def yX5_tellOfFeeder : MethodName := ⟨RX5, "tellOfFeeder", "(II)I"⟩
abbrev cX5_tellCount : ByteArray := prog_1_method_43_code
def yX5_tellCount : MethodName := ⟨RX5, "tellCount", "(I)I"⟩
abbrev cX5_tellIfSpeed : ByteArray := prog_1_method_44_code
def yX5_tellIfSpeed : MethodName := ⟨RX5, "tellIfSpeed", "(III)I"⟩
abbrev cX5_ticksUntilClosing : ByteArray := prog_1_method_45_code
def yX5_ticksUntilClosing : MethodName := ⟨RX5, "ticksUntilClosing", "(I)I"⟩
abbrev cX5_speedForFairShare : ByteArray := prog_1_method_46_code
def yX5_speedForFairShare : MethodName := ⟨RX5, "speedForFairShare", "(I)I"⟩
abbrev cX5_oneIf : ByteArray := prog_1_method_47_code
def yX5_oneIf : MethodName := ⟨RX5, "oneIf", "(Z)I"⟩
abbrev cX5_bitsOfDouble : ByteArray := prog_1_method_48_code
def yX5_bitsOfDouble : MethodName := ⟨RX5, "bitsOfDouble", "(D)J"⟩
abbrev cX5_bitsOfFloat : ByteArray := prog_1_method_49_code
def yX5_bitsOfFloat : MethodName := ⟨RX5, "bitsOfFloat", "(F)I"⟩
def RX6 : String := "DroopBoardModel"
def TX6 : u_T := fun k => match k with
  | 0 => ("DroopBoardModel", "row", "[I", true)
  | 1 => ("DroopBoardModel", "saved", "[I", true)
  | 2 => ("DroopBoardModel", "savedMany", "I", false)
  | 3 => ("DroopBoardModel", "snapshot", "[I", true)
  | 4 => ("DroopBoardModel", "isKept", "Z", false)
  | 5 => ("DroopBoardModel", "aside", "[I", true)
  | 6 => ("DroopBoardModel", "thrown", "I", false)
  | 7 => ("DroopBoardModel", "powers", "[I", true)
  | 8 => ("DroopBoardModel", "lack", "I", false)
  | 9 => ("DroopBoardModel", "buffer", "[I", true)
  | 10 => ("DroopBoardModel", "length", "I", false)
  | 11 => ("DroopBoardModel", "spot", "I", false)
  | 12 => ("DroopBoardModel", "orders", "I", false)
  | 13 => ("DroopBoardModel", "letter", "[I", true)
  | 14 => ("DroopBoardModel", "first", "[I", true)
  | 15 => ("DroopBoardModel", "second", "[I", true)
  | _ => ("DroopBoardModel", "hash", "J", false)
def tyX6 : Nat → FieldType := fun k => match k with
  | 0 => .array .int
  | 1 => .array .int
  | 2 => .int
  | 3 => .array .int
  | 4 => .boolean
  | 5 => .array .int
  | 6 => .int
  | 7 => .array .int
  | 8 => .int
  | 9 => .array .int
  | 10 => .int
  | 11 => .int
  | 12 => .int
  | 13 => .array .int
  | 14 => .array .int
  | 15 => .array .int
  | _ => .long
abbrev wsX60 : List Cond := u_ws RX6 TX6 17
theorem nmX6 : ∀ a, a < 17 → ∀ b, b < 17 → a ≠ b → (TX6 a).2.1 ≠ (TX6 b).2.1 := by decide +kernel
theorem tyX6_ok : ∀ k, k < 17 → parseFieldDescriptor (TX6 k).2.2.1 = some (tyX6 k) := by decide +kernel
abbrev cX6_init : ByteArray := prog_8_method_1_code
def yX6_init : MethodName := ⟨RX6, "<init>", "()V"⟩
abbrev cX6_thrown : ByteArray := prog_8_method_2_code
def yX6_thrown : MethodName := ⟨RX6, "thrown", "()I"⟩
abbrev cX6_fails : ByteArray := prog_8_method_3_code
def yX6_fails : MethodName := ⟨RX6, "fails", "(I)I"⟩
abbrev cX6_in : ByteArray := prog_8_method_4_code
def yX6_in : MethodName := ⟨RX6, "in", "(III)Z"⟩
abbrev cX6_isSet : ByteArray := prog_8_method_5_code
def yX6_isSet : MethodName := ⟨RX6, "isSet", "(I)Z"⟩
abbrev cX6_isFeeder : ByteArray := prog_8_method_6_code
def yX6_isFeeder : MethodName := ⟨RX6, "isFeeder", "(I)Z"⟩
abbrev cX6_of : ByteArray := prog_8_method_7_code
def yX6_of : MethodName := ⟨RX6, "of", "(II)I"⟩
abbrev cX6_put : ByteArray := prog_8_method_8_code
def yX6_put : MethodName := ⟨RX6, "put", "(III)V"⟩
abbrev cX6_ofLine : ByteArray := prog_8_method_9_code
def yX6_ofLine : MethodName := ⟨RX6, "ofLine", "(II)I"⟩
abbrev cX6_size : ByteArray := prog_8_method_10_code
def yX6_size : MethodName := ⟨RX6, "size", "(I)I"⟩
abbrev cX6_save : ByteArray := prog_8_method_11_code
def yX6_save : MethodName := ⟨RX6, "save", "()V"⟩
abbrev cX6_putAside : ByteArray := prog_8_method_12_code
def yX6_putAside : MethodName := ⟨RX6, "putAside", "()V"⟩
abbrev cX6_putBack : ByteArray := prog_8_method_13_code
def yX6_putBack : MethodName := ⟨RX6, "putBack", "()V"⟩
abbrev cX6_sum : ByteArray := prog_8_method_14_code
def yX6_sum : MethodName := ⟨RX6, "sum", "(I)I"⟩
abbrev cX6_isAlive : ByteArray := prog_8_method_15_code
def yX6_isAlive : MethodName := ⟨RX6, "isAlive", "()Z"⟩
abbrev cX6_load : ByteArray := prog_8_method_16_code
def yX6_load : MethodName := ⟨RX6, "load", "()I"⟩
abbrev cX6_given : ByteArray := prog_8_method_17_code
def yX6_given : MethodName := ⟨RX6, "given", "(II)I"⟩
abbrev cX6_givenByAll : ByteArray := prog_8_method_18_code
def yX6_givenByAll : MethodName := ⟨RX6, "givenByAll", "(I)I"⟩
abbrev cX6_frequency : ByteArray := prog_8_method_19_code
def yX6_frequency : MethodName := ⟨RX6, "frequency", "()I"⟩
abbrev cX6_find : ByteArray := prog_8_method_20_code
def yX6_find : MethodName := ⟨RX6, "find", "()V"⟩
abbrev cX6_power : ByteArray := prog_8_method_21_code
def yX6_power : MethodName := ⟨RX6, "power", "(I)I"⟩
abbrev cX6_lamps : ByteArray := prog_8_method_22_code
def yX6_lamps : MethodName := ⟨RX6, "lamps", "(I)I"⟩
abbrev cX6_reason : ByteArray := prog_8_method_23_code
def yX6_reason : MethodName := ⟨RX6, "reason", "(I)I"⟩
abbrev cX6_rest : ByteArray := prog_8_method_24_code
def yX6_rest : MethodName := ⟨RX6, "rest", "(I)V"⟩
abbrev cX6_turn : ByteArray := prog_8_method_25_code
def yX6_turn : MethodName := ⟨RX6, "turn", "(II)V"⟩
abbrev cX6_watch : ByteArray := prog_8_method_26_code
def yX6_watch : MethodName := ⟨RX6, "watch", "(I)V"⟩
abbrev cX6_shed : ByteArray := prog_8_method_27_code
def yX6_shed : MethodName := ⟨RX6, "shed", "()V"⟩
abbrev cX6_trip : ByteArray := prog_8_method_28_code
def yX6_trip : MethodName := ⟨RX6, "trip", "()I"⟩
abbrev cX6_tick : ByteArray := prog_8_method_29_code
def yX6_tick : MethodName := ⟨RX6, "tick", "()I"⟩
abbrev cX6_runNow : ByteArray := prog_8_method_30_code
def yX6_runNow : MethodName := ⟨RX6, "runNow", "(I)I"⟩
abbrev cX6_haltNow : ByteArray := prog_8_method_31_code
def yX6_haltNow : MethodName := ⟨RX6, "haltNow", "(I)I"⟩
abbrev cX6_switchNow : ByteArray := prog_8_method_32_code
def yX6_switchNow : MethodName := ⟨RX6, "switchNow", "(II)I"⟩
abbrev cX6_feederNow : ByteArray := prog_8_method_33_code
def yX6_feederNow : MethodName := ⟨RX6, "feederNow", "(II)I"⟩
abbrev cX6_passNow : ByteArray := prog_8_method_34_code
def yX6_passNow : MethodName := ⟨RX6, "passNow", "(I)I"⟩
abbrev cX6_speedNow : ByteArray := prog_8_method_35_code
def yX6_speedNow : MethodName := ⟨RX6, "speedNow", "(II)I"⟩
abbrev cX6_build : ByteArray := prog_8_method_36_code
def yX6_build : MethodName := ⟨RX6, "build", "(III)I"⟩
abbrev cX6_speed : ByteArray := prog_8_method_37_code
def yX6_speed : MethodName := ⟨RX6, "speed", "(II)I"⟩
abbrev cX6_canHalt : ByteArray := prog_8_method_38_code
def yX6_canHalt : MethodName := ⟨RX6, "canHalt", "(I)Z"⟩
abbrev cX6_run : ByteArray := prog_8_method_39_code
def yX6_run : MethodName := ⟨RX6, "run", "(I)I"⟩
abbrev cX6_halt : ByteArray := prog_8_method_40_code
def yX6_halt : MethodName := ⟨RX6, "halt", "(I)I"⟩
abbrev cX6_close : ByteArray := prog_8_method_41_code
def yX6_close : MethodName := ⟨RX6, "close", "(I)I"⟩
abbrev cX6_open : ByteArray := prog_8_method_42_code
def yX6_open : MethodName := ⟨RX6, "open", "(I)I"⟩
abbrev cX6_load_ : ByteArray := prog_8_method_43_code
def yX6_load_ : MethodName := ⟨RX6, "load", "(II)I"⟩
abbrev cX6_feeder : ByteArray := prog_8_method_44_code
def yX6_feeder : MethodName := ⟨RX6, "feeder", "(II)I"⟩
abbrev cX6_pass : ByteArray := prog_8_method_45_code
def yX6_pass : MethodName := ⟨RX6, "pass", "(I)I"⟩
abbrev cX6_maySet : ByteArray := prog_8_method_46_code
def yX6_maySet : MethodName := ⟨RX6, "maySet", "(II)Z"⟩
abbrev cX6_set : ByteArray := prog_8_method_47_code
def yX6_set : MethodName := ⟨RX6, "set", "(II)I"⟩
abbrev cX6_append : ByteArray := prog_8_method_48_code
def yX6_append : MethodName := ⟨RX6, "append", "(I)I"⟩
abbrev cX6_clearBuffer : ByteArray := prog_8_method_49_code
def yX6_clearBuffer : MethodName := ⟨RX6, "clearBuffer", "()I"⟩
abbrev cX6_takes : ByteArray := prog_8_method_50_code
def yX6_takes : MethodName := ⟨RX6, "takes", "(II)Z"⟩
abbrev cX6_digit : ByteArray := prog_8_method_51_code
def yX6_digit : MethodName := ⟨RX6, "digit", "(I)I"⟩
abbrev cX6_readSpeed : ByteArray := prog_8_method_52_code
def yX6_readSpeed : MethodName := ⟨RX6, "readSpeed", "()Z"⟩
abbrev cX6_readTicks : ByteArray := prog_8_method_53_code
def yX6_readTicks : MethodName := ⟨RX6, "readTicks", "()Z"⟩
abbrev cX6_readRest : ByteArray := prog_8_method_54_code
def yX6_readRest : MethodName := ⟨RX6, "readRest", "(I)Z"⟩
abbrev cX6_readOrder : ByteArray := prog_8_method_55_code
def yX6_readOrder : MethodName := ⟨RX6, "readOrder", "()Z"⟩
abbrev cX6_areOrders : ByteArray := prog_8_method_56_code
def yX6_areOrders : MethodName := ⟨RX6, "areOrders", "()Z"⟩
abbrev cX6_firstError : ByteArray := prog_8_method_57_code
def yX6_firstError : MethodName := ⟨RX6, "firstError", "()I"⟩
abbrev cX6_canDo : ByteArray := prog_8_method_58_code
def yX6_canDo : MethodName := ⟨RX6, "canDo", "(I)Z"⟩
abbrev cX6_doOrder : ByteArray := prog_8_method_59_code
def yX6_doOrder : MethodName := ⟨RX6, "doOrder", "(I)I"⟩
abbrev cX6_obey : ByteArray := prog_8_method_60_code
def yX6_obey : MethodName := ⟨RX6, "obey", "()I"⟩
abbrev cX6_keep : ByteArray := prog_8_method_61_code
def yX6_keep : MethodName := ⟨RX6, "keep", "()I"⟩
abbrev cX6_goBack : ByteArray := prog_8_method_62_code
def yX6_goBack : MethodName := ⟨RX6, "goBack", "()I"⟩
abbrev cX6_undo : ByteArray := prog_8_method_63_code
def yX6_undo : MethodName := ⟨RX6, "undo", "()I"⟩
abbrev cX6_ofDiesel : ByteArray := prog_8_method_64_code
def yX6_ofDiesel : MethodName := ⟨RX6, "ofDiesel", "(II)I"⟩
abbrev cX6_diesel : ByteArray := prog_8_method_65_code
def yX6_diesel : MethodName := ⟨RX6, "diesel", "(II)I"⟩
abbrev cX6_line : ByteArray := prog_8_method_66_code
def yX6_line : MethodName := ⟨RX6, "line", "(II)I"⟩
abbrev cX6_allPowers : ByteArray := prog_8_method_67_code
def yX6_allPowers : MethodName := ⟨RX6, "allPowers", "()I"⟩
abbrev cX6_lacks : ByteArray := prog_8_method_68_code
def yX6_lacks : MethodName := ⟨RX6, "lacks", "()I"⟩
abbrev cX6_number : ByteArray := prog_8_method_69_code
def yX6_number : MethodName := ⟨RX6, "number", "(I)I"⟩
abbrev cX6_count : ByteArray := prog_8_method_70_code
def yX6_count : MethodName := ⟨RX6, "count", "(I)I"⟩
abbrev cX6_setting : ByteArray := prog_8_method_71_code
def yX6_setting : MethodName := ⟨RX6, "setting", "(I)I"⟩
abbrev cX6_withSpeed : ByteArray := prog_8_method_72_code
def yX6_withSpeed : MethodName := ⟨RX6, "withSpeed", "(III)I"⟩
abbrev cX6_ifSpeed : ByteArray := prog_8_method_73_code
def yX6_ifSpeed : MethodName := ⟨RX6, "ifSpeed", "(III)I"⟩
abbrev cX6_closableIn : ByteArray := prog_8_method_74_code
def yX6_closableIn : MethodName := ⟨RX6, "closableIn", "(I)I"⟩
abbrev cX6_closeIn : ByteArray := prog_8_method_75_code
def yX6_closeIn : MethodName := ⟨RX6, "closeIn", "(I)I"⟩
abbrev cX6_ratings : ByteArray := prog_8_method_76_code
def yX6_ratings : MethodName := ⟨RX6, "ratings", "()I"⟩
abbrev cX6_fairFor : ByteArray := prog_8_method_77_code
def yX6_fairFor : MethodName := ⟨RX6, "fairFor", "(I)I"⟩
abbrev cX6_fairSpeed : ByteArray := prog_8_method_78_code
def yX6_fairSpeed : MethodName := ⟨RX6, "fairSpeed", "(I)I"⟩
abbrev cX6_tripIn : ByteArray := prog_8_method_79_code
def yX6_tripIn : MethodName := ⟨RX6, "tripIn", "()I"⟩
abbrev cX6_nextTrip : ByteArray := prog_8_method_80_code
def yX6_nextTrip : MethodName := ⟨RX6, "nextTrip", "()I"⟩
abbrev cX6_share : ByteArray := prog_8_method_81_code
def yX6_share : MethodName := ⟨RX6, "share", "()D"⟩
abbrev cX6_loadShare : ByteArray := prog_8_method_82_code
def yX6_loadShare : MethodName := ⟨RX6, "loadShare", "()D"⟩
abbrev cX6_mean : ByteArray := prog_8_method_83_code
def yX6_mean : MethodName := ⟨RX6, "mean", "()F"⟩
abbrev cX6_meanPower : ByteArray := prog_8_method_84_code
def yX6_meanPower : MethodName := ⟨RX6, "meanPower", "()F"⟩
abbrev cX6_mix : ByteArray := prog_8_method_85_code
def yX6_mix : MethodName := ⟨RX6, "mix", "(J)V"⟩
abbrev cX6_mixSet : ByteArray := prog_8_method_86_code
def yX6_mixSet : MethodName := ⟨RX6, "mixSet", "(I)V"⟩
abbrev cX6_digest : ByteArray := prog_8_method_87_code
def yX6_digest : MethodName := ⟨RX6, "digest", "()J"⟩
def RJxe99ae : String := "java/lang/Double"
def TJxe99ae : u_T := fun k => match k with
  | _ => ("", "", "", false)
def tyJxe99ae : Nat → FieldType := fun k => match k with
  | _ => .int
abbrev wsJxe99ae0 : List Cond := u_ws RJxe99ae TJxe99ae 0
theorem nmJxe99ae : ∀ a, a < 0 → ∀ b, b < 0 → a ≠ b → (TJxe99ae a).2.1 ≠ (TJxe99ae b).2.1 := by decide +kernel
theorem tyJxe99ae_ok : ∀ k, k < 0 → parseFieldDescriptor (TJxe99ae k).2.2.1 = some (tyJxe99ae k) := by decide +kernel
abbrev cJxe99ae_isNaN_b9ae7 : ByteArray := prog_9_method_6_code
def yJxe99ae_isNaN_b9ae7 : MethodName := ⟨RJxe99ae, "isNaN", "(D)Z"⟩
abbrev cJxe99ae_doubleToLongBits_ccdee : ByteArray := prog_9_method_23_code
def yJxe99ae_doubleToLongBits_ccdee : MethodName := ⟨RJxe99ae, "doubleToLongBits", "(D)J"⟩
def RJxf58ca : String := "java/lang/Float"
def TJxf58ca : u_T := fun k => match k with
  | _ => ("", "", "", false)
def tyJxf58ca : Nat → FieldType := fun k => match k with
  | _ => .int
abbrev wsJxf58ca0 : List Cond := u_ws RJxf58ca TJxf58ca 0
theorem nmJxf58ca : ∀ a, a < 0 → ∀ b, b < 0 → a ≠ b → (TJxf58ca a).2.1 ≠ (TJxf58ca b).2.1 := by decide +kernel
theorem tyJxf58ca_ok : ∀ k, k < 0 → parseFieldDescriptor (TJxf58ca k).2.2.1 = some (tyJxf58ca k) := by decide +kernel
abbrev cJxf58ca_isNaN_12338 : ByteArray := prog_11_method_6_code
def yJxf58ca_isNaN_12338 : MethodName := ⟨RJxf58ca, "isNaN", "(F)Z"⟩
abbrev cJxf58ca_floatToIntBits_5c35a : ByteArray := prog_11_method_24_code
def yJxf58ca_floatToIntBits_5c35a : MethodName := ⟨RJxf58ca, "floatToIntBits", "(F)I"⟩
def RJ9 : String := "java/lang/Math"
def TJ9 : u_T := fun k => match k with
  | _ => ("", "", "", false)
def tyJ9 : Nat → FieldType := fun k => match k with
  | _ => .int
abbrev wsJ90 : List Cond := u_ws RJ9 TJ9 0
theorem nmJ9 : ∀ a, a < 0 → ∀ b, b < 0 → a ≠ b → (TJ9 a).2.1 ≠ (TJ9 b).2.1 := by decide +kernel
theorem tyJ9_ok : ∀ k, k < 0 → parseFieldDescriptor (TJ9 k).2.2.1 = some (tyJ9 k) := by decide +kernel
abbrev cJ9_floorMod_7cf53 : ByteArray := prog_15_method_50_code
def yJ9_floorMod_7cf53 : MethodName := ⟨RJ9, "floorMod", "(II)I"⟩
abbrev cJ9_abs_0f7a4 : ByteArray := prog_15_method_59_code
def yJ9_abs_0f7a4 : MethodName := ⟨RJ9, "abs", "(I)I"⟩
abbrev cJ9_max_7cf53 : ByteArray := prog_15_method_65_code
def yJ9_max_7cf53 : MethodName := ⟨RJ9, "max", "(II)I"⟩
abbrev cJ9_min_7cf53 : ByteArray := prog_15_method_69_code
def yJ9_min_7cf53 : MethodName := ⟨RJ9, "min", "(II)I"⟩
def RJ0 : String := "java/lang/String"
def TJ0 : u_T := fun k => match k with
  | _ => ("", "", "", false)
def tyJ0 : Nat → FieldType := fun k => match k with
  | _ => .int
abbrev wsJ00 : List Cond := u_ws RJ0 TJ0 0
theorem nmJ0 : ∀ a, a < 0 → ∀ b, b < 0 → a ≠ b → (TJ0 a).2.1 ≠ (TJ0 b).2.1 := by decide +kernel
theorem tyJ0_ok : ∀ k, k < 0 → parseFieldDescriptor (TJ0 k).2.2.1 = some (tyJ0 k) := by decide +kernel
def RL : String := "DroopBoardLaw"
abbrev cL_build : ByteArray := method_3_code
def yL_build : MethodName := ⟨RL, "build", "(LDroopBoard;III[J)I"⟩
abbrev cL_speed : ByteArray := method_4_code
def yL_speed : MethodName := ⟨RL, "speed", "(LDroopBoard;II[J)I"⟩
abbrev cL_run : ByteArray := method_5_code
def yL_run : MethodName := ⟨RL, "run", "(LDroopBoard;I[J)I"⟩
abbrev cL_halt : ByteArray := method_6_code
def yL_halt : MethodName := ⟨RL, "halt", "(LDroopBoard;I[J)I"⟩
abbrev cL_close : ByteArray := method_7_code
def yL_close : MethodName := ⟨RL, "close", "(LDroopBoard;I[J)I"⟩
abbrev cL_open : ByteArray := method_8_code
def yL_open : MethodName := ⟨RL, "open", "(LDroopBoard;I[J)I"⟩
abbrev cL_load : ByteArray := method_9_code
def yL_load : MethodName := ⟨RL, "load", "(LDroopBoard;II[J)I"⟩
abbrev cL_feeder : ByteArray := method_10_code
def yL_feeder : MethodName := ⟨RL, "feeder", "(LDroopBoard;II[J)I"⟩
abbrev cL_pass : ByteArray := method_11_code
def yL_pass : MethodName := ⟨RL, "pass", "(LDroopBoard;I[J)I"⟩
abbrev cL_set : ByteArray := method_12_code
def yL_set : MethodName := ⟨RL, "set", "(LDroopBoard;II[J)I"⟩
abbrev cL_append : ByteArray := method_13_code
def yL_append : MethodName := ⟨RL, "append", "(LDroopBoard;I[J)I"⟩
abbrev cL_obey : ByteArray := method_14_code
def yL_obey : MethodName := ⟨RL, "obey", "(LDroopBoard;[J)I"⟩
abbrev cL_goBack : ByteArray := method_15_code
def yL_goBack : MethodName := ⟨RL, "goBack", "(LDroopBoard;[J)I"⟩
abbrev cL_undo : ByteArray := method_16_code
def yL_undo : MethodName := ⟨RL, "undo", "(LDroopBoard;[J)I"⟩
abbrev cL_diesel : ByteArray := method_17_code
def yL_diesel : MethodName := ⟨RL, "diesel", "(LDroopBoard;II[J)I"⟩
abbrev cL_line : ByteArray := method_18_code
def yL_line : MethodName := ⟨RL, "line", "(LDroopBoard;II[J)I"⟩
abbrev cL_count : ByteArray := method_19_code
def yL_count : MethodName := ⟨RL, "count", "(LDroopBoard;I[J)I"⟩
abbrev cL_setting : ByteArray := method_20_code
def yL_setting : MethodName := ⟨RL, "setting", "(LDroopBoard;I[J)I"⟩
abbrev cL_ifSpeed : ByteArray := method_21_code
def yL_ifSpeed : MethodName := ⟨RL, "ifSpeed", "(LDroopBoard;III[J)I"⟩
abbrev cL_closeIn : ByteArray := method_22_code
def yL_closeIn : MethodName := ⟨RL, "closeIn", "(LDroopBoard;I[J)I"⟩
abbrev cL_fairSpeed : ByteArray := method_23_code
def yL_fairSpeed : MethodName := ⟨RL, "fairSpeed", "(LDroopBoard;I[J)I"⟩
abbrev cL_law : ByteArray := code
def yL_law : MethodName := ⟨RL, "law", "([I)Z"⟩
def wsX1_init : List Cond := .code yX1_init cX1_init 2 none :: ([.methodLink RX1 1 objectInit, .instanceMethod objectInit, .code objectInit ⟨#[0xb1]⟩ 1 none, .fieldLink RX1 7 "DroopBoard$Diesel" "droop" "I", .fieldLink RX1 13 "DroopBoard$Diesel" "speed" "I", .fieldLink RX1 16 "DroopBoard$Diesel" "rating" "I"] ++ wsX10)
def wsX2_init : List Cond := .code yX2_init cX2_init 1 none :: ([.methodLink RX2 1 objectInit, .instanceMethod objectInit, .code objectInit ⟨#[0xb1]⟩ 1 none, .fieldLink RX2 7 "DroopBoard$Feeder" "on" "Z"] ++ wsX20)
def wsX0_init : List Cond := .code yX0_init cX0_init 2 none :: ([.methodLink RX0 3 objectInit, .instanceMethod objectInit, .code objectInit ⟨#[0xb1]⟩ 1 none, .classLink RX0 9 RX1, .fieldLink RX0 11 "DroopBoard$Board" "diesels" "[LDroopBoard$Diesel;", .classLink RX0 17 RX2, .fieldLink RX0 19 "DroopBoard$Board" "feeders" "[LDroopBoard$Feeder;", .arrayClass .int, .fieldLink RX0 23 "DroopBoard$Board" "settings" "[I", .instantiable RX1 10, .initialized RX1, .instantiable RX2 3, .initialized RX2, .methodLink RX0 27 yX1_init, .instanceMethod yX1_init, .code yX1_init cX1_init 2 none, .methodLink RX1 1 objectInit, .fieldLink RX1 7 "DroopBoard$Diesel" "droop" "I", .fieldLink RX1 13 "DroopBoard$Diesel" "speed" "I", .fieldLink RX1 16 "DroopBoard$Diesel" "rating" "I", .instanceMethod yX2_init, .code yX2_init cX2_init 1 none, .methodLink RX2 1 objectInit, .fieldLink RX2 7 "DroopBoard$Feeder" "on" "Z"] ++ wsX00 ++ wsX10 ++ wsX20)
def wsX1_copyFrom : List Cond := .code yX1_copyFrom cX1_copyFrom 2 none :: ([.fieldLink RX1 16 "DroopBoard$Diesel" "rating" "I", .fieldLink RX1 7 "DroopBoard$Diesel" "droop" "I", .fieldLink RX1 13 "DroopBoard$Diesel" "speed" "I", .fieldLink RX1 19 "DroopBoard$Diesel" "runs" "Z", .fieldLink RX1 23 "DroopBoard$Diesel" "closed" "Z", .fieldLink RX1 26 "DroopBoard$Diesel" "phase" "I", .fieldLink RX1 29 "DroopBoard$Diesel" "overloaded" "I", .fieldLink RX1 32 "DroopBoard$Diesel" "driven" "I", .fieldLink RX1 35 "DroopBoard$Diesel" "energy" "I", .fieldLink RX1 38 "DroopBoard$Diesel" "trips" "I"] ++ wsX10)
def wsX2_copyFrom : List Cond := .code yX2_copyFrom cX2_copyFrom 2 none :: ([.fieldLink RX2 13 "DroopBoard$Feeder" "load" "I", .fieldLink RX2 7 "DroopBoard$Feeder" "on" "Z", .fieldLink RX2 17 "DroopBoard$Feeder" "sheds" "I"] ++ wsX20)
def wsX0_copyFrom_r1 : List Cond := [Cond.fieldLink RX0 11 "DroopBoard$Board" "diesels" "[LDroopBoard$Diesel;", Cond.fieldLink RX0 19 "DroopBoard$Board" "feeders" "[LDroopBoard$Feeder;", Cond.fieldLink RX0 23 "DroopBoard$Board" "settings" "[I", Cond.fieldLink RX0 38 "DroopBoard$Board" "ticks" "I", Cond.fieldLink RX0 42 "DroopBoard$Board" "energy" "I", Cond.methodLink RX0 31 yX1_copyFrom, Cond.instanceMethod yX1_copyFrom, Cond.selects RX1 yX1_copyFrom yX1_copyFrom, Cond.initialized RX1, Cond.code yX1_copyFrom cX1_copyFrom 2 none, Cond.fieldLink RX1 16 "DroopBoard$Diesel" "rating" "I", Cond.fieldLink RX1 7 "DroopBoard$Diesel" "droop" "I", Cond.fieldLink RX1 13 "DroopBoard$Diesel" "speed" "I", Cond.fieldLink RX1 19 "DroopBoard$Diesel" "runs" "Z", Cond.fieldLink RX1 23 "DroopBoard$Diesel" "closed" "Z", Cond.fieldLink RX1 26 "DroopBoard$Diesel" "phase" "I", Cond.fieldLink RX1 29 "DroopBoard$Diesel" "overloaded" "I", Cond.fieldLink RX1 32 "DroopBoard$Diesel" "driven" "I", Cond.fieldLink RX1 35 "DroopBoard$Diesel" "energy" "I", Cond.fieldLink RX1 38 "DroopBoard$Diesel" "trips" "I", Cond.methodLink RX0 35 yX2_copyFrom, Cond.instanceMethod yX2_copyFrom, Cond.selects RX2 yX2_copyFrom yX2_copyFrom, Cond.initialized RX2]
def wsX0_copyFrom_r2 : List Cond := [Cond.code yX2_copyFrom cX2_copyFrom 2 none, Cond.fieldLink RX2 13 "DroopBoard$Feeder" "load" "I", Cond.fieldLink RX2 7 "DroopBoard$Feeder" "on" "Z", Cond.fieldLink RX2 17 "DroopBoard$Feeder" "sheds" "I"]
def wsX0_copyFrom : List Cond := .code yX0_copyFrom cX0_copyFrom 3 none :: ((wsX0_copyFrom_r1 ++ wsX0_copyFrom_r2) ++ wsX00 ++ wsX10 ++ wsX20)
def wsX0_alive : List Cond := .code yX0_alive cX0_alive 2 (some .boolean) :: ([.fieldLink RX0 11 "DroopBoard$Board" "diesels" "[LDroopBoard$Diesel;", .fieldLink RX0 45 "DroopBoard$Diesel" "closed" "Z"] ++ wsX00 ++ wsX10)
def wsX0_lowestClosed : List Cond := .code yX0_lowestClosed cX0_lowestClosed 2 (some .int) :: ([.fieldLink RX0 11 "DroopBoard$Board" "diesels" "[LDroopBoard$Diesel;", .fieldLink RX0 45 "DroopBoard$Diesel" "closed" "Z"] ++ wsX00 ++ wsX10)
def wsX0_demand : List Cond := .code yX0_demand cX0_demand 3 (some .int) :: ([.fieldLink RX0 19 "DroopBoard$Board" "feeders" "[LDroopBoard$Feeder;", .fieldLink RX0 53 "DroopBoard$Feeder" "on" "Z", .fieldLink RX0 56 "DroopBoard$Feeder" "load" "I", .methodLink RX0 49 yX0_alive, .instanceMethod yX0_alive, .selects RX0 yX0_alive yX0_alive, .initialized RX0, .code yX0_alive cX0_alive 2 (some .boolean), .fieldLink RX0 11 "DroopBoard$Board" "diesels" "[LDroopBoard$Diesel;", .fieldLink RX0 45 "DroopBoard$Diesel" "closed" "Z"] ++ wsX00 ++ wsX20 ++ wsX10)
def wsX1_gives : List Cond := .code yX1_gives cX1_gives 2 (some .int) :: ([.fieldLink RX1 23 "DroopBoard$Diesel" "closed" "Z", .fieldLink RX1 7 "DroopBoard$Diesel" "droop" "I", .fieldLink RX1 13 "DroopBoard$Diesel" "speed" "I", .fieldLink RX1 16 "DroopBoard$Diesel" "rating" "I"] ++ wsX10)
def wsX0_total : List Cond := .code yX0_total cX0_total 4 (some .int) :: ([.fieldLink RX0 11 "DroopBoard$Board" "diesels" "[LDroopBoard$Diesel;", .methodLink RX0 59 yX1_gives, .instanceMethod yX1_gives, .selects RX1 yX1_gives yX1_gives, .initialized RX1, .code yX1_gives cX1_gives 2 (some .int), .fieldLink RX1 23 "DroopBoard$Diesel" "closed" "Z", .fieldLink RX1 7 "DroopBoard$Diesel" "droop" "I", .fieldLink RX1 13 "DroopBoard$Diesel" "speed" "I", .fieldLink RX1 16 "DroopBoard$Diesel" "rating" "I"] ++ wsX00 ++ wsX10)
def wsX0_frequency_r1 : List Cond := [Cond.methodLink RX0 49 yX0_alive, Cond.instanceMethod yX0_alive, Cond.selects RX0 yX0_alive yX0_alive, Cond.initialized RX0, Cond.code yX0_alive cX0_alive 2 (some .boolean), Cond.fieldLink RX0 11 "DroopBoard$Board" "diesels" "[LDroopBoard$Diesel;", Cond.fieldLink RX0 45 "DroopBoard$Diesel" "closed" "Z", Cond.methodLink RX0 63 yX0_demand, Cond.instanceMethod yX0_demand, Cond.selects RX0 yX0_demand yX0_demand, Cond.code yX0_demand cX0_demand 3 (some .int), Cond.fieldLink RX0 19 "DroopBoard$Board" "feeders" "[LDroopBoard$Feeder;", Cond.fieldLink RX0 53 "DroopBoard$Feeder" "on" "Z", Cond.fieldLink RX0 56 "DroopBoard$Feeder" "load" "I", Cond.methodLink RX0 67 yX0_total, Cond.instanceMethod yX0_total, Cond.selects RX0 yX0_total yX0_total, Cond.code yX0_total cX0_total 4 (some .int), Cond.methodLink RX0 59 yX1_gives, Cond.instanceMethod yX1_gives, Cond.selects RX1 yX1_gives yX1_gives, Cond.initialized RX1, Cond.code yX1_gives cX1_gives 2 (some .int), Cond.fieldLink RX1 23 "DroopBoard$Diesel" "closed" "Z"]
def wsX0_frequency_r2 : List Cond := [Cond.fieldLink RX1 7 "DroopBoard$Diesel" "droop" "I", Cond.fieldLink RX1 13 "DroopBoard$Diesel" "speed" "I", Cond.fieldLink RX1 16 "DroopBoard$Diesel" "rating" "I"]
def wsX0_frequency : List Cond := .code yX0_frequency cX0_frequency 6 (some .int) :: ((wsX0_frequency_r1 ++ wsX0_frequency_r2) ++ wsX00 ++ wsX10 ++ wsX20)
def wsX0_frequencyDownwards_r1 : List Cond := [Cond.methodLink RX0 49 yX0_alive, Cond.instanceMethod yX0_alive, Cond.selects RX0 yX0_alive yX0_alive, Cond.initialized RX0, Cond.code yX0_alive cX0_alive 2 (some .boolean), Cond.fieldLink RX0 11 "DroopBoard$Board" "diesels" "[LDroopBoard$Diesel;", Cond.fieldLink RX0 45 "DroopBoard$Diesel" "closed" "Z", Cond.methodLink RX0 63 yX0_demand, Cond.instanceMethod yX0_demand, Cond.selects RX0 yX0_demand yX0_demand, Cond.code yX0_demand cX0_demand 3 (some .int), Cond.fieldLink RX0 19 "DroopBoard$Board" "feeders" "[LDroopBoard$Feeder;", Cond.fieldLink RX0 53 "DroopBoard$Feeder" "on" "Z", Cond.fieldLink RX0 56 "DroopBoard$Feeder" "load" "I", Cond.methodLink RX0 67 yX0_total, Cond.instanceMethod yX0_total, Cond.selects RX0 yX0_total yX0_total, Cond.code yX0_total cX0_total 4 (some .int), Cond.methodLink RX0 59 yX1_gives, Cond.instanceMethod yX1_gives, Cond.selects RX1 yX1_gives yX1_gives, Cond.initialized RX1, Cond.code yX1_gives cX1_gives 2 (some .int), Cond.fieldLink RX1 23 "DroopBoard$Diesel" "closed" "Z"]
def wsX0_frequencyDownwards_r2 : List Cond := [Cond.fieldLink RX1 7 "DroopBoard$Diesel" "droop" "I", Cond.fieldLink RX1 13 "DroopBoard$Diesel" "speed" "I", Cond.fieldLink RX1 16 "DroopBoard$Diesel" "rating" "I"]
def wsX0_frequencyDownwards : List Cond := .code yX0_frequencyDownwards cX0_frequencyDownwards 3 (some .int) :: ((wsX0_frequencyDownwards_r1 ++ wsX0_frequencyDownwards_r2) ++ wsX00 ++ wsX10 ++ wsX20)
def wsX0_power_r1 : List Cond := [Cond.fieldLink RX0 11 "DroopBoard$Board" "diesels" "[LDroopBoard$Diesel;", Cond.methodLink RX0 73 Lib.Math.max.name, Cond.static Lib.Math.max.name, Cond.initialized "java/lang/Math", Cond.code Lib.Math.max.name Lib.Math.max.code 2 (some .int), Cond.methodLink RX0 59 yX1_gives, Cond.instanceMethod yX1_gives, Cond.selects RX1 yX1_gives yX1_gives, Cond.initialized RX1, Cond.code yX1_gives cX1_gives 2 (some .int), Cond.fieldLink RX1 23 "DroopBoard$Diesel" "closed" "Z", Cond.fieldLink RX1 7 "DroopBoard$Diesel" "droop" "I", Cond.fieldLink RX1 13 "DroopBoard$Diesel" "speed" "I", Cond.fieldLink RX1 16 "DroopBoard$Diesel" "rating" "I", Cond.methodLink RX0 70 yX0_lowestClosed, Cond.instanceMethod yX0_lowestClosed, Cond.selects RX0 yX0_lowestClosed yX0_lowestClosed, Cond.initialized RX0, Cond.code yX0_lowestClosed cX0_lowestClosed 2 (some .int), Cond.fieldLink RX0 45 "DroopBoard$Diesel" "closed" "Z", Cond.methodLink RX0 67 yX0_total, Cond.instanceMethod yX0_total, Cond.selects RX0 yX0_total yX0_total, Cond.code yX0_total cX0_total 4 (some .int)]
def wsX0_power_r2 : List Cond := [Cond.methodLink RX0 63 yX0_demand, Cond.instanceMethod yX0_demand, Cond.selects RX0 yX0_demand yX0_demand, Cond.code yX0_demand cX0_demand 3 (some .int), Cond.fieldLink RX0 19 "DroopBoard$Board" "feeders" "[LDroopBoard$Feeder;", Cond.fieldLink RX0 53 "DroopBoard$Feeder" "on" "Z", Cond.fieldLink RX0 56 "DroopBoard$Feeder" "load" "I", Cond.methodLink RX0 49 yX0_alive, Cond.instanceMethod yX0_alive, Cond.selects RX0 yX0_alive yX0_alive, Cond.code yX0_alive cX0_alive 2 (some .boolean)]
def wsX0_power : List Cond := .code yX0_power cX0_power 4 (some .int) :: ((wsX0_power_r1 ++ wsX0_power_r2) ++ wsX00 ++ wsX10 ++ wsX20)
def wsX0_powers_r1 : List Cond := [Cond.fieldLink RX0 11 "DroopBoard$Board" "diesels" "[LDroopBoard$Diesel;", Cond.methodLink RX0 79 yX0_power, Cond.instanceMethod yX0_power, Cond.selects RX0 yX0_power yX0_power, Cond.initialized RX0, Cond.code yX0_power cX0_power 4 (some .int), Cond.methodLink RX0 73 Lib.Math.max.name, Cond.static Lib.Math.max.name, Cond.initialized "java/lang/Math", Cond.code Lib.Math.max.name Lib.Math.max.code 2 (some .int), Cond.methodLink RX0 59 yX1_gives, Cond.instanceMethod yX1_gives, Cond.selects RX1 yX1_gives yX1_gives, Cond.initialized RX1, Cond.code yX1_gives cX1_gives 2 (some .int), Cond.fieldLink RX1 23 "DroopBoard$Diesel" "closed" "Z", Cond.fieldLink RX1 7 "DroopBoard$Diesel" "droop" "I", Cond.fieldLink RX1 13 "DroopBoard$Diesel" "speed" "I", Cond.fieldLink RX1 16 "DroopBoard$Diesel" "rating" "I", Cond.methodLink RX0 70 yX0_lowestClosed, Cond.instanceMethod yX0_lowestClosed, Cond.selects RX0 yX0_lowestClosed yX0_lowestClosed, Cond.code yX0_lowestClosed cX0_lowestClosed 2 (some .int), Cond.fieldLink RX0 45 "DroopBoard$Diesel" "closed" "Z"]
def wsX0_powers_r2 : List Cond := [Cond.methodLink RX0 67 yX0_total, Cond.instanceMethod yX0_total, Cond.selects RX0 yX0_total yX0_total, Cond.code yX0_total cX0_total 4 (some .int), Cond.methodLink RX0 63 yX0_demand, Cond.instanceMethod yX0_demand, Cond.selects RX0 yX0_demand yX0_demand, Cond.code yX0_demand cX0_demand 3 (some .int), Cond.fieldLink RX0 19 "DroopBoard$Board" "feeders" "[LDroopBoard$Feeder;", Cond.fieldLink RX0 53 "DroopBoard$Feeder" "on" "Z", Cond.fieldLink RX0 56 "DroopBoard$Feeder" "load" "I", Cond.methodLink RX0 49 yX0_alive, Cond.instanceMethod yX0_alive, Cond.selects RX0 yX0_alive yX0_alive, Cond.code yX0_alive cX0_alive 2 (some .boolean)]
def wsX0_powers : List Cond := .code yX0_powers cX0_powers 4 (some .int) :: ((wsX0_powers_r1 ++ wsX0_powers_r2) ++ wsX00 ++ wsX10 ++ wsX20)
def wsX0_lack_r1 : List Cond := [Cond.methodLink RX0 73 Lib.Math.max.name, Cond.static Lib.Math.max.name, Cond.initialized "java/lang/Math", Cond.code Lib.Math.max.name Lib.Math.max.code 2 (some .int), Cond.methodLink RX0 63 yX0_demand, Cond.instanceMethod yX0_demand, Cond.selects RX0 yX0_demand yX0_demand, Cond.initialized RX0, Cond.code yX0_demand cX0_demand 3 (some .int), Cond.fieldLink RX0 19 "DroopBoard$Board" "feeders" "[LDroopBoard$Feeder;", Cond.fieldLink RX0 53 "DroopBoard$Feeder" "on" "Z", Cond.fieldLink RX0 56 "DroopBoard$Feeder" "load" "I", Cond.methodLink RX0 49 yX0_alive, Cond.instanceMethod yX0_alive, Cond.selects RX0 yX0_alive yX0_alive, Cond.code yX0_alive cX0_alive 2 (some .boolean), Cond.fieldLink RX0 11 "DroopBoard$Board" "diesels" "[LDroopBoard$Diesel;", Cond.fieldLink RX0 45 "DroopBoard$Diesel" "closed" "Z", Cond.methodLink RX0 67 yX0_total, Cond.instanceMethod yX0_total, Cond.selects RX0 yX0_total yX0_total, Cond.code yX0_total cX0_total 4 (some .int), Cond.methodLink RX0 59 yX1_gives, Cond.instanceMethod yX1_gives]
def wsX0_lack_r2 : List Cond := [Cond.selects RX1 yX1_gives yX1_gives, Cond.initialized RX1, Cond.code yX1_gives cX1_gives 2 (some .int), Cond.fieldLink RX1 23 "DroopBoard$Diesel" "closed" "Z", Cond.fieldLink RX1 7 "DroopBoard$Diesel" "droop" "I", Cond.fieldLink RX1 13 "DroopBoard$Diesel" "speed" "I", Cond.fieldLink RX1 16 "DroopBoard$Diesel" "rating" "I"]
def wsX0_lack : List Cond := .code yX0_lack cX0_lack 2 (some .int) :: ((wsX0_lack_r1 ++ wsX0_lack_r2) ++ wsX00 ++ wsX20 ++ wsX10)
def wsX1_lamps : List Cond := .code yX1_lamps cX1_lamps 1 (some .int) :: ([.fieldLink RX1 26 "DroopBoard$Diesel" "phase" "I", .methodLink RX1 44 Lib.Math.min.name, .static Lib.Math.min.name, .initialized "java/lang/Math", .code Lib.Math.min.name Lib.Math.min.code 2 (some .int)] ++ wsX10)
def wsX0_whyNotClosed_r1 : List Cond := [Cond.fieldLink RX0 11 "DroopBoard$Board" "diesels" "[LDroopBoard$Diesel;", Cond.fieldLink RX0 82 "DroopBoard$Diesel" "runs" "Z", Cond.fieldLink RX0 45 "DroopBoard$Diesel" "closed" "Z", Cond.fieldLink RX0 85 "DroopBoard$Diesel" "speed" "I", Cond.methodLink RX0 91 Lib.Math.abs.name, Cond.static Lib.Math.abs.name, Cond.initialized "java/lang/Math", Cond.code Lib.Math.abs.name Lib.Math.abs.code 1 (some .int), Cond.fieldLink RX0 23 "DroopBoard$Board" "settings" "[I", Cond.methodLink RX0 49 yX0_alive, Cond.instanceMethod yX0_alive, Cond.selects RX0 yX0_alive yX0_alive, Cond.initialized RX0, Cond.code yX0_alive cX0_alive 2 (some .boolean), Cond.methodLink RX0 88 yX0_frequency, Cond.instanceMethod yX0_frequency, Cond.selects RX0 yX0_frequency yX0_frequency, Cond.code yX0_frequency cX0_frequency 6 (some .int), Cond.methodLink RX0 63 yX0_demand, Cond.instanceMethod yX0_demand, Cond.selects RX0 yX0_demand yX0_demand, Cond.code yX0_demand cX0_demand 3 (some .int), Cond.fieldLink RX0 19 "DroopBoard$Board" "feeders" "[LDroopBoard$Feeder;", Cond.fieldLink RX0 53 "DroopBoard$Feeder" "on" "Z"]
def wsX0_whyNotClosed_r2 : List Cond := [Cond.fieldLink RX0 56 "DroopBoard$Feeder" "load" "I", Cond.methodLink RX0 67 yX0_total, Cond.instanceMethod yX0_total, Cond.selects RX0 yX0_total yX0_total, Cond.code yX0_total cX0_total 4 (some .int), Cond.methodLink RX0 59 yX1_gives, Cond.instanceMethod yX1_gives, Cond.selects RX1 yX1_gives yX1_gives, Cond.initialized RX1, Cond.code yX1_gives cX1_gives 2 (some .int), Cond.fieldLink RX1 23 "DroopBoard$Diesel" "closed" "Z", Cond.fieldLink RX1 7 "DroopBoard$Diesel" "droop" "I", Cond.fieldLink RX1 13 "DroopBoard$Diesel" "speed" "I", Cond.fieldLink RX1 16 "DroopBoard$Diesel" "rating" "I", Cond.methodLink RX0 94 yX1_lamps, Cond.instanceMethod yX1_lamps, Cond.selects RX1 yX1_lamps yX1_lamps, Cond.code yX1_lamps cX1_lamps 1 (some .int), Cond.fieldLink RX1 26 "DroopBoard$Diesel" "phase" "I", Cond.methodLink RX1 44 Lib.Math.min.name, Cond.static Lib.Math.min.name, Cond.code Lib.Math.min.name Lib.Math.min.code 2 (some .int)]
def wsX0_whyNotClosed : List Cond := .code yX0_whyNotClosed cX0_whyNotClosed 3 (some .int) :: ((wsX0_whyNotClosed_r1 ++ wsX0_whyNotClosed_r2) ++ wsX00 ++ wsX10 ++ wsX20)
def wsJ9_floorMod_7cf53 : List Cond := .code yJ9_floorMod_7cf53 cJ9_floorMod_7cf53 3 (some .int) :: ([])
def wsX1_tick : List Cond := .code yX1_tick cX1_tick 3 none :: ([.fieldLink RX1 35 "DroopBoard$Diesel" "energy" "I", .fieldLink RX1 23 "DroopBoard$Diesel" "closed" "Z", .fieldLink RX1 16 "DroopBoard$Diesel" "rating" "I", .fieldLink RX1 29 "DroopBoard$Diesel" "overloaded" "I", .fieldLink RX1 32 "DroopBoard$Diesel" "driven" "I", .fieldLink RX1 19 "DroopBoard$Diesel" "runs" "Z", .fieldLink RX1 26 "DroopBoard$Diesel" "phase" "I", .fieldLink RX1 13 "DroopBoard$Diesel" "speed" "I", .methodLink RX1 50 yJ9_floorMod_7cf53, .static yJ9_floorMod_7cf53, .initialized RJ9, .code yJ9_floorMod_7cf53 cJ9_floorMod_7cf53 3 (some .int)] ++ wsX10)
def wsX0_shed : List Cond := .code yX0_shed cX0_shed 2 none :: ([.fieldLink RX0 19 "DroopBoard$Board" "feeders" "[LDroopBoard$Feeder;", .fieldLink RX0 53 "DroopBoard$Feeder" "on" "Z", .fieldLink RX0 56 "DroopBoard$Feeder" "load" "I", .fieldLink RX0 112 "DroopBoard$Feeder" "sheds" "I"] ++ wsX00 ++ wsX20)
def wsX1_beginAnew : List Cond := .code yX1_beginAnew cX1_beginAnew 1 none :: ([.fieldLink RX1 26 "DroopBoard$Diesel" "phase" "I", .fieldLink RX1 29 "DroopBoard$Diesel" "overloaded" "I", .fieldLink RX1 32 "DroopBoard$Diesel" "driven" "I"] ++ wsX10)
def wsX1_openBreaker : List Cond := .code yX1_openBreaker cX1_openBreaker 1 none :: ([.fieldLink RX1 23 "DroopBoard$Diesel" "closed" "Z", .methodLink RX1 41 yX1_beginAnew, .instanceMethod yX1_beginAnew, .selects RX1 yX1_beginAnew yX1_beginAnew, .initialized RX1, .code yX1_beginAnew cX1_beginAnew 1 none, .fieldLink RX1 26 "DroopBoard$Diesel" "phase" "I", .fieldLink RX1 29 "DroopBoard$Diesel" "overloaded" "I", .fieldLink RX1 32 "DroopBoard$Diesel" "driven" "I"] ++ wsX10)
def wsX0_trip : List Cond := .code yX0_trip cX0_trip 4 (some .int) :: ([.fieldLink RX0 11 "DroopBoard$Board" "diesels" "[LDroopBoard$Diesel;", .fieldLink RX0 115 "DroopBoard$Diesel" "overloaded" "I", .fieldLink RX0 23 "DroopBoard$Board" "settings" "[I", .fieldLink RX0 118 "DroopBoard$Diesel" "driven" "I", .fieldLink RX0 124 "DroopBoard$Diesel" "trips" "I", .methodLink RX0 121 yX1_openBreaker, .instanceMethod yX1_openBreaker, .selects RX1 yX1_openBreaker yX1_openBreaker, .initialized RX1, .code yX1_openBreaker cX1_openBreaker 1 none, .fieldLink RX1 23 "DroopBoard$Diesel" "closed" "Z", .methodLink RX1 41 yX1_beginAnew, .instanceMethod yX1_beginAnew, .selects RX1 yX1_beginAnew yX1_beginAnew, .code yX1_beginAnew cX1_beginAnew 1 none, .fieldLink RX1 26 "DroopBoard$Diesel" "phase" "I", .fieldLink RX1 29 "DroopBoard$Diesel" "overloaded" "I", .fieldLink RX1 32 "DroopBoard$Diesel" "driven" "I"] ++ wsX00 ++ wsX10)
def wsX0_tick_r1 : List Cond := [Cond.fieldLink RX0 42 "DroopBoard$Board" "energy" "I", Cond.fieldLink RX0 11 "DroopBoard$Board" "diesels" "[LDroopBoard$Diesel;", Cond.fieldLink RX0 38 "DroopBoard$Board" "ticks" "I", Cond.methodLink RX0 88 yX0_frequency, Cond.instanceMethod yX0_frequency, Cond.selects RX0 yX0_frequency yX0_frequency, Cond.initialized RX0, Cond.code yX0_frequency cX0_frequency 6 (some .int), Cond.methodLink RX0 49 yX0_alive, Cond.instanceMethod yX0_alive, Cond.selects RX0 yX0_alive yX0_alive, Cond.code yX0_alive cX0_alive 2 (some .boolean), Cond.fieldLink RX0 45 "DroopBoard$Diesel" "closed" "Z", Cond.methodLink RX0 63 yX0_demand, Cond.instanceMethod yX0_demand, Cond.selects RX0 yX0_demand yX0_demand, Cond.code yX0_demand cX0_demand 3 (some .int), Cond.fieldLink RX0 19 "DroopBoard$Board" "feeders" "[LDroopBoard$Feeder;", Cond.fieldLink RX0 53 "DroopBoard$Feeder" "on" "Z", Cond.fieldLink RX0 56 "DroopBoard$Feeder" "load" "I", Cond.methodLink RX0 67 yX0_total, Cond.instanceMethod yX0_total, Cond.selects RX0 yX0_total yX0_total, Cond.code yX0_total cX0_total 4 (some .int)]
def wsX0_tick_r2 : List Cond := [Cond.methodLink RX0 59 yX1_gives, Cond.instanceMethod yX1_gives, Cond.selects RX1 yX1_gives yX1_gives, Cond.initialized RX1, Cond.code yX1_gives cX1_gives 2 (some .int), Cond.fieldLink RX1 23 "DroopBoard$Diesel" "closed" "Z", Cond.fieldLink RX1 7 "DroopBoard$Diesel" "droop" "I", Cond.fieldLink RX1 13 "DroopBoard$Diesel" "speed" "I", Cond.fieldLink RX1 16 "DroopBoard$Diesel" "rating" "I", Cond.methodLink RX0 100 yX0_lack, Cond.instanceMethod yX0_lack, Cond.selects RX0 yX0_lack yX0_lack, Cond.code yX0_lack cX0_lack 2 (some .int), Cond.methodLink RX0 73 Lib.Math.max.name, Cond.static Lib.Math.max.name, Cond.initialized "java/lang/Math", Cond.code Lib.Math.max.name Lib.Math.max.code 2 (some .int), Cond.methodLink RX0 79 yX0_power, Cond.instanceMethod yX0_power, Cond.selects RX0 yX0_power yX0_power, Cond.code yX0_power cX0_power 4 (some .int), Cond.methodLink RX0 70 yX0_lowestClosed, Cond.instanceMethod yX0_lowestClosed, Cond.selects RX0 yX0_lowestClosed yX0_lowestClosed]
def wsX0_tick_r3 : List Cond := [Cond.code yX0_lowestClosed cX0_lowestClosed 2 (some .int), Cond.methodLink RX0 103 yX1_tick, Cond.instanceMethod yX1_tick, Cond.selects RX1 yX1_tick yX1_tick, Cond.code yX1_tick cX1_tick 3 none, Cond.fieldLink RX1 35 "DroopBoard$Diesel" "energy" "I", Cond.fieldLink RX1 29 "DroopBoard$Diesel" "overloaded" "I", Cond.fieldLink RX1 32 "DroopBoard$Diesel" "driven" "I", Cond.fieldLink RX1 19 "DroopBoard$Diesel" "runs" "Z", Cond.fieldLink RX1 26 "DroopBoard$Diesel" "phase" "I", Cond.methodLink RX1 50 yJ9_floorMod_7cf53, Cond.static yJ9_floorMod_7cf53, Cond.initialized RJ9, Cond.code yJ9_floorMod_7cf53 cJ9_floorMod_7cf53 3 (some .int), Cond.methodLink RX0 106 yX0_shed, Cond.instanceMethod yX0_shed, Cond.selects RX0 yX0_shed yX0_shed, Cond.code yX0_shed cX0_shed 2 none, Cond.fieldLink RX0 112 "DroopBoard$Feeder" "sheds" "I", Cond.methodLink RX0 109 yX0_trip, Cond.instanceMethod yX0_trip, Cond.selects RX0 yX0_trip yX0_trip, Cond.code yX0_trip cX0_trip 4 (some .int), Cond.fieldLink RX0 115 "DroopBoard$Diesel" "overloaded" "I"]
def wsX0_tick_r4 : List Cond := [Cond.fieldLink RX0 23 "DroopBoard$Board" "settings" "[I", Cond.fieldLink RX0 118 "DroopBoard$Diesel" "driven" "I", Cond.fieldLink RX0 124 "DroopBoard$Diesel" "trips" "I", Cond.methodLink RX0 121 yX1_openBreaker, Cond.instanceMethod yX1_openBreaker, Cond.selects RX1 yX1_openBreaker yX1_openBreaker, Cond.code yX1_openBreaker cX1_openBreaker 1 none, Cond.methodLink RX1 41 yX1_beginAnew, Cond.instanceMethod yX1_beginAnew, Cond.selects RX1 yX1_beginAnew yX1_beginAnew, Cond.code yX1_beginAnew cX1_beginAnew 1 none]
def wsX0_tick : List Cond := .code yX0_tick cX0_tick 4 (some .int) :: ((wsX0_tick_r1 ++ (wsX0_tick_r2 ++ (wsX0_tick_r3 ++ wsX0_tick_r4))) ++ wsX00 ++ wsX10 ++ wsX20)
def wsX0_passTicks_r1 : List Cond := [Cond.methodLink RX0 97 yX0_tick, Cond.instanceMethod yX0_tick, Cond.selects RX0 yX0_tick yX0_tick, Cond.initialized RX0, Cond.code yX0_tick cX0_tick 4 (some .int), Cond.fieldLink RX0 42 "DroopBoard$Board" "energy" "I", Cond.fieldLink RX0 11 "DroopBoard$Board" "diesels" "[LDroopBoard$Diesel;", Cond.fieldLink RX0 38 "DroopBoard$Board" "ticks" "I", Cond.methodLink RX0 88 yX0_frequency, Cond.instanceMethod yX0_frequency, Cond.selects RX0 yX0_frequency yX0_frequency, Cond.code yX0_frequency cX0_frequency 6 (some .int), Cond.methodLink RX0 49 yX0_alive, Cond.instanceMethod yX0_alive, Cond.selects RX0 yX0_alive yX0_alive, Cond.code yX0_alive cX0_alive 2 (some .boolean), Cond.fieldLink RX0 45 "DroopBoard$Diesel" "closed" "Z", Cond.methodLink RX0 63 yX0_demand, Cond.instanceMethod yX0_demand, Cond.selects RX0 yX0_demand yX0_demand, Cond.code yX0_demand cX0_demand 3 (some .int), Cond.fieldLink RX0 19 "DroopBoard$Board" "feeders" "[LDroopBoard$Feeder;", Cond.fieldLink RX0 53 "DroopBoard$Feeder" "on" "Z", Cond.fieldLink RX0 56 "DroopBoard$Feeder" "load" "I"]
def wsX0_passTicks_r2 : List Cond := [Cond.methodLink RX0 67 yX0_total, Cond.instanceMethod yX0_total, Cond.selects RX0 yX0_total yX0_total, Cond.code yX0_total cX0_total 4 (some .int), Cond.methodLink RX0 59 yX1_gives, Cond.instanceMethod yX1_gives, Cond.selects RX1 yX1_gives yX1_gives, Cond.initialized RX1, Cond.code yX1_gives cX1_gives 2 (some .int), Cond.fieldLink RX1 23 "DroopBoard$Diesel" "closed" "Z", Cond.fieldLink RX1 7 "DroopBoard$Diesel" "droop" "I", Cond.fieldLink RX1 13 "DroopBoard$Diesel" "speed" "I", Cond.fieldLink RX1 16 "DroopBoard$Diesel" "rating" "I", Cond.methodLink RX0 100 yX0_lack, Cond.instanceMethod yX0_lack, Cond.selects RX0 yX0_lack yX0_lack, Cond.code yX0_lack cX0_lack 2 (some .int), Cond.methodLink RX0 73 Lib.Math.max.name, Cond.static Lib.Math.max.name, Cond.initialized "java/lang/Math", Cond.code Lib.Math.max.name Lib.Math.max.code 2 (some .int), Cond.methodLink RX0 79 yX0_power, Cond.instanceMethod yX0_power, Cond.selects RX0 yX0_power yX0_power]
def wsX0_passTicks_r3 : List Cond := [Cond.code yX0_power cX0_power 4 (some .int), Cond.methodLink RX0 70 yX0_lowestClosed, Cond.instanceMethod yX0_lowestClosed, Cond.selects RX0 yX0_lowestClosed yX0_lowestClosed, Cond.code yX0_lowestClosed cX0_lowestClosed 2 (some .int), Cond.methodLink RX0 103 yX1_tick, Cond.instanceMethod yX1_tick, Cond.selects RX1 yX1_tick yX1_tick, Cond.code yX1_tick cX1_tick 3 none, Cond.fieldLink RX1 35 "DroopBoard$Diesel" "energy" "I", Cond.fieldLink RX1 29 "DroopBoard$Diesel" "overloaded" "I", Cond.fieldLink RX1 32 "DroopBoard$Diesel" "driven" "I", Cond.fieldLink RX1 19 "DroopBoard$Diesel" "runs" "Z", Cond.fieldLink RX1 26 "DroopBoard$Diesel" "phase" "I", Cond.methodLink RX1 50 yJ9_floorMod_7cf53, Cond.static yJ9_floorMod_7cf53, Cond.initialized RJ9, Cond.code yJ9_floorMod_7cf53 cJ9_floorMod_7cf53 3 (some .int), Cond.methodLink RX0 106 yX0_shed, Cond.instanceMethod yX0_shed, Cond.selects RX0 yX0_shed yX0_shed, Cond.code yX0_shed cX0_shed 2 none, Cond.fieldLink RX0 112 "DroopBoard$Feeder" "sheds" "I", Cond.methodLink RX0 109 yX0_trip]
def wsX0_passTicks_r4 : List Cond := [Cond.instanceMethod yX0_trip, Cond.selects RX0 yX0_trip yX0_trip, Cond.code yX0_trip cX0_trip 4 (some .int), Cond.fieldLink RX0 115 "DroopBoard$Diesel" "overloaded" "I", Cond.fieldLink RX0 23 "DroopBoard$Board" "settings" "[I", Cond.fieldLink RX0 118 "DroopBoard$Diesel" "driven" "I", Cond.fieldLink RX0 124 "DroopBoard$Diesel" "trips" "I", Cond.methodLink RX0 121 yX1_openBreaker, Cond.instanceMethod yX1_openBreaker, Cond.selects RX1 yX1_openBreaker yX1_openBreaker, Cond.code yX1_openBreaker cX1_openBreaker 1 none, Cond.methodLink RX1 41 yX1_beginAnew, Cond.instanceMethod yX1_beginAnew, Cond.selects RX1 yX1_beginAnew yX1_beginAnew, Cond.code yX1_beginAnew cX1_beginAnew 1 none]
def wsX0_passTicks : List Cond := .code yX0_passTicks cX0_passTicks 4 (some .int) :: ((wsX0_passTicks_r1 ++ (wsX0_passTicks_r2 ++ (wsX0_passTicks_r3 ++ wsX0_passTicks_r4))) ++ wsX00 ++ wsX10 ++ wsX20)
def wsX5_oneIf : List Cond := .code yX5_oneIf cX5_oneIf 1 (some .int) :: ([])
def wsX0_running : List Cond := .code yX0_running cX0_running 3 (some .int) :: ([.fieldLink RX0 11 "DroopBoard$Board" "diesels" "[LDroopBoard$Diesel;", .fieldLink RX0 82 "DroopBoard$Diesel" "runs" "Z", .static yX5_oneIf, .initialized RX5, .code yX5_oneIf cX5_oneIf 1 (some .int)] ++ wsX00 ++ wsX10)
def wsX0_closedBreakers : List Cond := .code yX0_closedBreakers cX0_closedBreakers 3 (some .int) :: ([.fieldLink RX0 11 "DroopBoard$Board" "diesels" "[LDroopBoard$Diesel;", .fieldLink RX0 45 "DroopBoard$Diesel" "closed" "Z", .static yX5_oneIf, .initialized RX5, .code yX5_oneIf cX5_oneIf 1 (some .int)] ++ wsX00 ++ wsX10)
def wsX0_ratingsClosed : List Cond := .code yX0_ratingsClosed cX0_ratingsClosed 3 (some .int) :: ([.fieldLink RX0 11 "DroopBoard$Board" "diesels" "[LDroopBoard$Diesel;", .fieldLink RX0 45 "DroopBoard$Diesel" "closed" "Z", .fieldLink RX0 131 "DroopBoard$Diesel" "rating" "I"] ++ wsX00 ++ wsX10)
def wsX0_trips : List Cond := .code yX0_trips cX0_trips 3 (some .int) :: ([.fieldLink RX0 11 "DroopBoard$Board" "diesels" "[LDroopBoard$Diesel;", .fieldLink RX0 124 "DroopBoard$Diesel" "trips" "I"] ++ wsX00 ++ wsX10)
def wsX0_sheds : List Cond := .code yX0_sheds cX0_sheds 3 (some .int) :: ([.fieldLink RX0 19 "DroopBoard$Board" "feeders" "[LDroopBoard$Feeder;", .fieldLink RX0 112 "DroopBoard$Feeder" "sheds" "I"] ++ wsX00 ++ wsX20)
def wsX1_canStart : List Cond := .code yX1_canStart cX1_canStart 1 (some .boolean) :: ([.fieldLink RX1 19 "DroopBoard$Diesel" "runs" "Z"] ++ wsX10)
def wsX1_canStop : List Cond := .code yX1_canStop cX1_canStop 1 (some .boolean) :: ([.fieldLink RX1 19 "DroopBoard$Diesel" "runs" "Z", .fieldLink RX1 23 "DroopBoard$Diesel" "closed" "Z"] ++ wsX10)
def wsX1_start : List Cond := .code yX1_start cX1_start 1 none :: ([.fieldLink RX1 19 "DroopBoard$Diesel" "runs" "Z", .methodLink RX1 41 yX1_beginAnew, .instanceMethod yX1_beginAnew, .selects RX1 yX1_beginAnew yX1_beginAnew, .initialized RX1, .code yX1_beginAnew cX1_beginAnew 1 none, .fieldLink RX1 26 "DroopBoard$Diesel" "phase" "I", .fieldLink RX1 29 "DroopBoard$Diesel" "overloaded" "I", .fieldLink RX1 32 "DroopBoard$Diesel" "driven" "I"] ++ wsX10)
def wsX1_stop : List Cond := .code yX1_stop cX1_stop 1 none :: ([.fieldLink RX1 19 "DroopBoard$Diesel" "runs" "Z", .methodLink RX1 41 yX1_beginAnew, .instanceMethod yX1_beginAnew, .selects RX1 yX1_beginAnew yX1_beginAnew, .initialized RX1, .code yX1_beginAnew cX1_beginAnew 1 none, .fieldLink RX1 26 "DroopBoard$Diesel" "phase" "I", .fieldLink RX1 29 "DroopBoard$Diesel" "overloaded" "I", .fieldLink RX1 32 "DroopBoard$Diesel" "driven" "I"] ++ wsX10)
def wsX1_closeBreaker : List Cond := .code yX1_closeBreaker cX1_closeBreaker 1 none :: ([.fieldLink RX1 23 "DroopBoard$Diesel" "closed" "Z", .methodLink RX1 41 yX1_beginAnew, .instanceMethod yX1_beginAnew, .selects RX1 yX1_beginAnew yX1_beginAnew, .initialized RX1, .code yX1_beginAnew cX1_beginAnew 1 none, .fieldLink RX1 26 "DroopBoard$Diesel" "phase" "I", .fieldLink RX1 29 "DroopBoard$Diesel" "overloaded" "I", .fieldLink RX1 32 "DroopBoard$Diesel" "driven" "I"] ++ wsX10)
def wsX3_init_r1 : List Cond := [Cond.methodLink RX3 3 objectInit, Cond.instanceMethod objectInit, Cond.code objectInit ⟨#[0xb1]⟩ 1 none, Cond.classLink RX3 9 RX0, Cond.fieldLink RX3 11 "DroopBoard$History" "states" "[LDroopBoard$Board;", Cond.instantiable RX0 5, Cond.initialized RX0, Cond.methodLink RX3 17 yX0_init, Cond.instanceMethod yX0_init, Cond.code yX0_init cX0_init 2 none, Cond.methodLink RX0 3 objectInit, Cond.classLink RX0 9 RX1, Cond.fieldLink RX0 11 "DroopBoard$Board" "diesels" "[LDroopBoard$Diesel;", Cond.classLink RX0 17 RX2, Cond.fieldLink RX0 19 "DroopBoard$Board" "feeders" "[LDroopBoard$Feeder;", Cond.arrayClass .int, Cond.fieldLink RX0 23 "DroopBoard$Board" "settings" "[I", Cond.instantiable RX1 10, Cond.initialized RX1, Cond.instantiable RX2 3, Cond.initialized RX2, Cond.methodLink RX0 27 yX1_init, Cond.instanceMethod yX1_init, Cond.code yX1_init cX1_init 2 none]
def wsX3_init_r2 : List Cond := [Cond.methodLink RX1 1 objectInit, Cond.fieldLink RX1 7 "DroopBoard$Diesel" "droop" "I", Cond.fieldLink RX1 13 "DroopBoard$Diesel" "speed" "I", Cond.fieldLink RX1 16 "DroopBoard$Diesel" "rating" "I", Cond.instanceMethod yX2_init, Cond.code yX2_init cX2_init 1 none, Cond.methodLink RX2 1 objectInit, Cond.fieldLink RX2 7 "DroopBoard$Feeder" "on" "Z"]
def wsX3_init : List Cond := .code yX3_init cX3_init 2 none :: ((wsX3_init_r1 ++ wsX3_init_r2) ++ wsX30 ++ wsX00 ++ wsX10 ++ wsX20)
def wsX3_dropOldest : List Cond := .code yX3_dropOldest cX3_dropOldest 3 none :: ([.fieldLink RX3 11 "DroopBoard$History" "states" "[LDroopBoard$Board;", .fieldLink RX3 18 "DroopBoard$History" "size" "I"] ++ wsX30)
def wsX3_save_r1 : List Cond := [Cond.fieldLink RX3 18 "DroopBoard$History" "size" "I", Cond.fieldLink RX3 11 "DroopBoard$History" "states" "[LDroopBoard$Board;", Cond.methodLink RX3 22 yX3_dropOldest, Cond.instanceMethod yX3_dropOldest, Cond.selects RX3 yX3_dropOldest yX3_dropOldest, Cond.initialized RX3, Cond.code yX3_dropOldest cX3_dropOldest 3 none, Cond.methodLink RX3 25 yX0_copyFrom, Cond.instanceMethod yX0_copyFrom, Cond.selects RX0 yX0_copyFrom yX0_copyFrom, Cond.initialized RX0, Cond.code yX0_copyFrom cX0_copyFrom 3 none, Cond.fieldLink RX0 11 "DroopBoard$Board" "diesels" "[LDroopBoard$Diesel;", Cond.fieldLink RX0 19 "DroopBoard$Board" "feeders" "[LDroopBoard$Feeder;", Cond.fieldLink RX0 23 "DroopBoard$Board" "settings" "[I", Cond.fieldLink RX0 38 "DroopBoard$Board" "ticks" "I", Cond.fieldLink RX0 42 "DroopBoard$Board" "energy" "I", Cond.methodLink RX0 31 yX1_copyFrom, Cond.instanceMethod yX1_copyFrom, Cond.selects RX1 yX1_copyFrom yX1_copyFrom, Cond.initialized RX1, Cond.code yX1_copyFrom cX1_copyFrom 2 none, Cond.fieldLink RX1 16 "DroopBoard$Diesel" "rating" "I", Cond.fieldLink RX1 7 "DroopBoard$Diesel" "droop" "I"]
def wsX3_save_r2 : List Cond := [Cond.fieldLink RX1 13 "DroopBoard$Diesel" "speed" "I", Cond.fieldLink RX1 19 "DroopBoard$Diesel" "runs" "Z", Cond.fieldLink RX1 23 "DroopBoard$Diesel" "closed" "Z", Cond.fieldLink RX1 26 "DroopBoard$Diesel" "phase" "I", Cond.fieldLink RX1 29 "DroopBoard$Diesel" "overloaded" "I", Cond.fieldLink RX1 32 "DroopBoard$Diesel" "driven" "I", Cond.fieldLink RX1 35 "DroopBoard$Diesel" "energy" "I", Cond.fieldLink RX1 38 "DroopBoard$Diesel" "trips" "I", Cond.methodLink RX0 35 yX2_copyFrom, Cond.instanceMethod yX2_copyFrom, Cond.selects RX2 yX2_copyFrom yX2_copyFrom, Cond.initialized RX2, Cond.code yX2_copyFrom cX2_copyFrom 2 none, Cond.fieldLink RX2 13 "DroopBoard$Feeder" "load" "I", Cond.fieldLink RX2 7 "DroopBoard$Feeder" "on" "Z", Cond.fieldLink RX2 17 "DroopBoard$Feeder" "sheds" "I"]
def wsX3_save : List Cond := .code yX3_save cX3_save 2 none :: ((wsX3_save_r1 ++ wsX3_save_r2) ++ wsX30 ++ wsX00 ++ wsX10 ++ wsX20)
def wsX3_restore_r1 : List Cond := [Cond.fieldLink RX3 18 "DroopBoard$History" "size" "I", Cond.fieldLink RX3 11 "DroopBoard$History" "states" "[LDroopBoard$Board;", Cond.methodLink RX3 25 yX0_copyFrom, Cond.instanceMethod yX0_copyFrom, Cond.selects RX0 yX0_copyFrom yX0_copyFrom, Cond.initialized RX0, Cond.code yX0_copyFrom cX0_copyFrom 3 none, Cond.fieldLink RX0 11 "DroopBoard$Board" "diesels" "[LDroopBoard$Diesel;", Cond.fieldLink RX0 19 "DroopBoard$Board" "feeders" "[LDroopBoard$Feeder;", Cond.fieldLink RX0 23 "DroopBoard$Board" "settings" "[I", Cond.fieldLink RX0 38 "DroopBoard$Board" "ticks" "I", Cond.fieldLink RX0 42 "DroopBoard$Board" "energy" "I", Cond.methodLink RX0 31 yX1_copyFrom, Cond.instanceMethod yX1_copyFrom, Cond.selects RX1 yX1_copyFrom yX1_copyFrom, Cond.initialized RX1, Cond.code yX1_copyFrom cX1_copyFrom 2 none, Cond.fieldLink RX1 16 "DroopBoard$Diesel" "rating" "I", Cond.fieldLink RX1 7 "DroopBoard$Diesel" "droop" "I", Cond.fieldLink RX1 13 "DroopBoard$Diesel" "speed" "I", Cond.fieldLink RX1 19 "DroopBoard$Diesel" "runs" "Z", Cond.fieldLink RX1 23 "DroopBoard$Diesel" "closed" "Z", Cond.fieldLink RX1 26 "DroopBoard$Diesel" "phase" "I", Cond.fieldLink RX1 29 "DroopBoard$Diesel" "overloaded" "I"]
def wsX3_restore_r2 : List Cond := [Cond.fieldLink RX1 32 "DroopBoard$Diesel" "driven" "I", Cond.fieldLink RX1 35 "DroopBoard$Diesel" "energy" "I", Cond.fieldLink RX1 38 "DroopBoard$Diesel" "trips" "I", Cond.methodLink RX0 35 yX2_copyFrom, Cond.instanceMethod yX2_copyFrom, Cond.selects RX2 yX2_copyFrom yX2_copyFrom, Cond.initialized RX2, Cond.code yX2_copyFrom cX2_copyFrom 2 none, Cond.fieldLink RX2 13 "DroopBoard$Feeder" "load" "I", Cond.fieldLink RX2 7 "DroopBoard$Feeder" "on" "Z", Cond.fieldLink RX2 17 "DroopBoard$Feeder" "sheds" "I"]
def wsX3_restore : List Cond := .code yX3_restore cX3_restore 2 none :: ((wsX3_restore_r1 ++ wsX3_restore_r2) ++ wsX30 ++ wsX00 ++ wsX10 ++ wsX20)
def wsX4_init : List Cond := .code yX4_init cX4_init 1 none :: ([.methodLink RX4 3 objectInit, .instanceMethod objectInit, .code objectInit ⟨#[0xb1]⟩ 1 none, .arrayClass .int, .fieldLink RX4 9 "DroopBoard$OrderText" "codes" "[I"] ++ wsX40)
def wsX4_isFull : List Cond := .code yX4_isFull cX4_isFull 1 (some .boolean) :: ([.fieldLink RX4 15 "DroopBoard$OrderText" "length" "I", .fieldLink RX4 9 "DroopBoard$OrderText" "codes" "[I"] ++ wsX40)
def wsX4_add : List Cond := .code yX4_add cX4_add 2 none :: ([.fieldLink RX4 9 "DroopBoard$OrderText" "codes" "[I", .fieldLink RX4 15 "DroopBoard$OrderText" "length" "I", .methodLink RX4 19 yX4_isFull, .instanceMethod yX4_isFull, .selects RX4 yX4_isFull yX4_isFull, .initialized RX4, .code yX4_isFull cX4_isFull 1 (some .boolean)] ++ wsX40)
def wsX4_codeAt : List Cond := .code yX4_codeAt cX4_codeAt 2 (some .int) :: ([.fieldLink RX4 15 "DroopBoard$OrderText" "length" "I", .fieldLink RX4 9 "DroopBoard$OrderText" "codes" "[I"] ++ wsX40)
def wsX4_afterLetter : List Cond := .code yX4_afterLetter cX4_afterLetter 1 (some .int) :: ([])
def wsX4_between : List Cond := .code yX4_between cX4_between 4 (some .int) :: ([])
def wsX4_next : List Cond := .code yX4_next cX4_next 2 (some .int) :: ([.methodLink RX4 31 yX4_afterLetter, .static yX4_afterLetter, .initialized RX4, .code yX4_afterLetter cX4_afterLetter 1 (some .int), .methodLink RX4 34 yX4_between, .static yX4_between, .code yX4_between cX4_between 4 (some .int)])
def wsX4_firstWrong : List Cond := .code yX4_firstWrong cX4_firstWrong 3 (some .int) :: ([.fieldLink RX4 15 "DroopBoard$OrderText" "length" "I", .fieldLink RX4 9 "DroopBoard$OrderText" "codes" "[I", .methodLink RX4 23 yX4_next, .static yX4_next, .initialized RX4, .code yX4_next cX4_next 2 (some .int), .methodLink RX4 31 yX4_afterLetter, .static yX4_afterLetter, .code yX4_afterLetter cX4_afterLetter 1 (some .int), .methodLink RX4 34 yX4_between, .static yX4_between, .code yX4_between cX4_between 4 (some .int)] ++ wsX40)
def wsX4_isComplete : List Cond := .code yX4_isComplete cX4_isComplete 3 (some .boolean) :: ([.fieldLink RX4 15 "DroopBoard$OrderText" "length" "I", .fieldLink RX4 9 "DroopBoard$OrderText" "codes" "[I", .methodLink RX4 23 yX4_next, .static yX4_next, .initialized RX4, .code yX4_next cX4_next 2 (some .int), .methodLink RX4 31 yX4_afterLetter, .static yX4_afterLetter, .code yX4_afterLetter cX4_afterLetter 1 (some .int), .methodLink RX4 34 yX4_between, .static yX4_between, .code yX4_between cX4_between 4 (some .int)] ++ wsX40)
def wsX4_endOfPart : List Cond := .code yX4_endOfPart cX4_endOfPart 3 (some .int) :: ([.fieldLink RX4 15 "DroopBoard$OrderText" "length" "I", .methodLink RX4 27 yX4_codeAt, .instanceMethod yX4_codeAt, .selects RX4 yX4_codeAt yX4_codeAt, .initialized RX4, .code yX4_codeAt cX4_codeAt 2 (some .int), .fieldLink RX4 9 "DroopBoard$OrderText" "codes" "[I"] ++ wsX40)
def wsX4_number : List Cond := .code yX4_number cX4_number 5 (some .int) :: ([.methodLink RX4 27 yX4_codeAt, .instanceMethod yX4_codeAt, .selects RX4 yX4_codeAt yX4_codeAt, .initialized RX4, .code yX4_codeAt cX4_codeAt 2 (some .int), .fieldLink RX4 15 "DroopBoard$OrderText" "length" "I", .fieldLink RX4 9 "DroopBoard$OrderText" "codes" "[I"] ++ wsX40)
def wsX5_init_r1 : List Cond := [Cond.methodLink RX5 1 objectInit, Cond.instanceMethod objectInit, Cond.code objectInit ⟨#[0xb1]⟩ 1 none, Cond.classLink RX5 7 RX0, Cond.instantiable RX0 5, Cond.initialized RX0, Cond.fieldLink RX5 10 "DroopBoard" "board" "LDroopBoard$Board;", Cond.fieldLink RX5 16 "DroopBoard" "trial" "LDroopBoard$Board;", Cond.fieldLink RX5 19 "DroopBoard" "snapshot" "LDroopBoard$Board;", Cond.classLink RX5 22 RX3, Cond.instantiable RX3 2, Cond.initialized RX3, Cond.fieldLink RX5 25 "DroopBoard" "history" "LDroopBoard$History;", Cond.classLink RX5 29 RX4, Cond.instantiable RX4 2, Cond.initialized RX4, Cond.fieldLink RX5 32 "DroopBoard" "text" "LDroopBoard$OrderText;", Cond.methodLink RX5 9 yX0_init, Cond.instanceMethod yX0_init, Cond.code yX0_init cX0_init 2 none, Cond.methodLink RX0 3 objectInit, Cond.classLink RX0 9 RX1, Cond.fieldLink RX0 11 "DroopBoard$Board" "diesels" "[LDroopBoard$Diesel;", Cond.classLink RX0 17 RX2]
def wsX5_init_r2 : List Cond := [Cond.fieldLink RX0 19 "DroopBoard$Board" "feeders" "[LDroopBoard$Feeder;", Cond.arrayClass .int, Cond.fieldLink RX0 23 "DroopBoard$Board" "settings" "[I", Cond.instantiable RX1 10, Cond.initialized RX1, Cond.instantiable RX2 3, Cond.initialized RX2, Cond.methodLink RX0 27 yX1_init, Cond.instanceMethod yX1_init, Cond.code yX1_init cX1_init 2 none, Cond.methodLink RX1 1 objectInit, Cond.fieldLink RX1 7 "DroopBoard$Diesel" "droop" "I", Cond.fieldLink RX1 13 "DroopBoard$Diesel" "speed" "I", Cond.fieldLink RX1 16 "DroopBoard$Diesel" "rating" "I", Cond.instanceMethod yX2_init, Cond.code yX2_init cX2_init 1 none, Cond.methodLink RX2 1 objectInit, Cond.fieldLink RX2 7 "DroopBoard$Feeder" "on" "Z", Cond.methodLink RX5 24 yX3_init, Cond.instanceMethod yX3_init, Cond.code yX3_init cX3_init 2 none, Cond.methodLink RX3 3 objectInit, Cond.classLink RX3 9 RX0, Cond.fieldLink RX3 11 "DroopBoard$History" "states" "[LDroopBoard$Board;"]
def wsX5_init_r3 : List Cond := [Cond.methodLink RX3 17 yX0_init, Cond.instanceMethod yX4_init, Cond.code yX4_init cX4_init 1 none, Cond.methodLink RX4 3 objectInit, Cond.fieldLink RX4 9 "DroopBoard$OrderText" "codes" "[I"]
def wsX5_init : List Cond := .code yX5_init cX5_init 1 none :: ((wsX5_init_r1 ++ (wsX5_init_r2 ++ wsX5_init_r3)) ++ wsX00 ++ wsX50 ++ wsX30 ++ wsX40 ++ wsX10 ++ wsX20)
def wsX5_isSet : List Cond := .code yX5_isSet cX5_isSet 1 (some .boolean) :: ([])
def wsX5_needSet : List Cond := .code yX5_needSet cX5_needSet 1 none :: ([.classLink RX5 269 "java/lang/IndexOutOfBoundsException", .initialized "java/lang/IndexOutOfBoundsException", .methodLink RX5 265 yX5_isSet, .static yX5_isSet, .initialized RX5, .code yX5_isSet cX5_isSet 1 (some .boolean)] ++ (vx_atS RX5 273 "java/lang/IndexOutOfBoundsException" ["java/lang/RuntimeException", "java/lang/Exception"]).filter goodWord)
def wsX5_needRange : List Cond := .code yX5_needRange cX5_needRange 3 none :: ([.classLink RX5 168 "java/lang/IllegalArgumentException", .initialized "java/lang/IllegalArgumentException"] ++ (vx_atS RX5 172 "java/lang/IllegalArgumentException" ["java/lang/RuntimeException", "java/lang/Exception"]).filter goodWord)
def wsX5_build_r1 : List Cond := [Cond.classLink RX5 54 "java/lang/IllegalStateException", Cond.initialized "java/lang/IllegalStateException", Cond.fieldLink RX5 10 "DroopBoard" "board" "LDroopBoard$Board;", Cond.fieldLink RX5 44 "DroopBoard$Board" "diesels" "[LDroopBoard$Diesel;", Cond.fieldLink RX5 48 "DroopBoard$Diesel" "runs" "Z", Cond.fieldLink RX5 25 "DroopBoard" "history" "LDroopBoard$History;", Cond.fieldLink RX5 65 "DroopBoard$Diesel" "rating" "I", Cond.fieldLink RX5 69 "DroopBoard$Diesel" "droop" "I", Cond.methodLink RX5 36 yX5_needSet, Cond.static yX5_needSet, Cond.initialized RX5, Cond.code yX5_needSet cX5_needSet 1 none, Cond.classLink RX5 269 "java/lang/IndexOutOfBoundsException", Cond.initialized "java/lang/IndexOutOfBoundsException", Cond.methodLink RX5 265 yX5_isSet, Cond.static yX5_isSet, Cond.code yX5_isSet cX5_isSet 1 (some .boolean), Cond.methodLink RX5 40 yX5_needRange, Cond.static yX5_needRange, Cond.code yX5_needRange cX5_needRange 3 none, Cond.classLink RX5 168 "java/lang/IllegalArgumentException", Cond.initialized "java/lang/IllegalArgumentException", Cond.methodLink RX5 61 yX3_save, Cond.instanceMethod yX3_save]
def wsX5_build_r2 : List Cond := [Cond.selects RX3 yX3_save yX3_save, Cond.initialized RX3, Cond.code yX3_save cX3_save 2 none, Cond.fieldLink RX3 18 "DroopBoard$History" "size" "I", Cond.fieldLink RX3 11 "DroopBoard$History" "states" "[LDroopBoard$Board;", Cond.methodLink RX3 22 yX3_dropOldest, Cond.instanceMethod yX3_dropOldest, Cond.selects RX3 yX3_dropOldest yX3_dropOldest, Cond.code yX3_dropOldest cX3_dropOldest 3 none, Cond.methodLink RX3 25 yX0_copyFrom, Cond.instanceMethod yX0_copyFrom, Cond.selects RX0 yX0_copyFrom yX0_copyFrom, Cond.initialized RX0, Cond.code yX0_copyFrom cX0_copyFrom 3 none, Cond.fieldLink RX0 11 "DroopBoard$Board" "diesels" "[LDroopBoard$Diesel;", Cond.fieldLink RX0 19 "DroopBoard$Board" "feeders" "[LDroopBoard$Feeder;", Cond.fieldLink RX0 23 "DroopBoard$Board" "settings" "[I", Cond.fieldLink RX0 38 "DroopBoard$Board" "ticks" "I", Cond.fieldLink RX0 42 "DroopBoard$Board" "energy" "I", Cond.methodLink RX0 31 yX1_copyFrom, Cond.instanceMethod yX1_copyFrom, Cond.selects RX1 yX1_copyFrom yX1_copyFrom, Cond.initialized RX1, Cond.code yX1_copyFrom cX1_copyFrom 2 none]
def wsX5_build_r3 : List Cond := [Cond.fieldLink RX1 16 "DroopBoard$Diesel" "rating" "I", Cond.fieldLink RX1 7 "DroopBoard$Diesel" "droop" "I", Cond.fieldLink RX1 13 "DroopBoard$Diesel" "speed" "I", Cond.fieldLink RX1 19 "DroopBoard$Diesel" "runs" "Z", Cond.fieldLink RX1 23 "DroopBoard$Diesel" "closed" "Z", Cond.fieldLink RX1 26 "DroopBoard$Diesel" "phase" "I", Cond.fieldLink RX1 29 "DroopBoard$Diesel" "overloaded" "I", Cond.fieldLink RX1 32 "DroopBoard$Diesel" "driven" "I", Cond.fieldLink RX1 35 "DroopBoard$Diesel" "energy" "I", Cond.fieldLink RX1 38 "DroopBoard$Diesel" "trips" "I", Cond.methodLink RX0 35 yX2_copyFrom, Cond.instanceMethod yX2_copyFrom, Cond.selects RX2 yX2_copyFrom yX2_copyFrom, Cond.initialized RX2, Cond.code yX2_copyFrom cX2_copyFrom 2 none, Cond.fieldLink RX2 13 "DroopBoard$Feeder" "load" "I", Cond.fieldLink RX2 7 "DroopBoard$Feeder" "on" "Z", Cond.fieldLink RX2 17 "DroopBoard$Feeder" "sheds" "I"]
def wsX5_build : List Cond := .code yX5_build cX5_build 6 (some .int) :: ((wsX5_build_r1 ++ (wsX5_build_r2 ++ wsX5_build_r3)) ++ wsX50 ++ wsX00 ++ wsX10 ++ wsX30 ++ wsX20 ++ (vx_atS RX5 58 "java/lang/IllegalStateException" ["java/lang/RuntimeException", "java/lang/Exception"]).filter goodWord ++ (vx_atS RX5 273 "java/lang/IndexOutOfBoundsException" ["java/lang/RuntimeException", "java/lang/Exception"]).filter goodWord ++ (vx_atS RX5 172 "java/lang/IllegalArgumentException" ["java/lang/RuntimeException", "java/lang/Exception"]).filter goodWord)
def wsX5_speed_r1 : List Cond := [Cond.fieldLink RX5 25 "DroopBoard" "history" "LDroopBoard$History;", Cond.fieldLink RX5 10 "DroopBoard" "board" "LDroopBoard$Board;", Cond.fieldLink RX5 44 "DroopBoard$Board" "diesels" "[LDroopBoard$Diesel;", Cond.fieldLink RX5 72 "DroopBoard$Diesel" "speed" "I", Cond.methodLink RX5 36 yX5_needSet, Cond.static yX5_needSet, Cond.initialized RX5, Cond.code yX5_needSet cX5_needSet 1 none, Cond.classLink RX5 269 "java/lang/IndexOutOfBoundsException", Cond.initialized "java/lang/IndexOutOfBoundsException", Cond.methodLink RX5 265 yX5_isSet, Cond.static yX5_isSet, Cond.code yX5_isSet cX5_isSet 1 (some .boolean), Cond.methodLink RX5 40 yX5_needRange, Cond.static yX5_needRange, Cond.code yX5_needRange cX5_needRange 3 none, Cond.classLink RX5 168 "java/lang/IllegalArgumentException", Cond.initialized "java/lang/IllegalArgumentException", Cond.methodLink RX5 61 yX3_save, Cond.instanceMethod yX3_save, Cond.selects RX3 yX3_save yX3_save, Cond.initialized RX3, Cond.code yX3_save cX3_save 2 none, Cond.fieldLink RX3 18 "DroopBoard$History" "size" "I"]
def wsX5_speed_r2 : List Cond := [Cond.fieldLink RX3 11 "DroopBoard$History" "states" "[LDroopBoard$Board;", Cond.methodLink RX3 22 yX3_dropOldest, Cond.instanceMethod yX3_dropOldest, Cond.selects RX3 yX3_dropOldest yX3_dropOldest, Cond.code yX3_dropOldest cX3_dropOldest 3 none, Cond.methodLink RX3 25 yX0_copyFrom, Cond.instanceMethod yX0_copyFrom, Cond.selects RX0 yX0_copyFrom yX0_copyFrom, Cond.initialized RX0, Cond.code yX0_copyFrom cX0_copyFrom 3 none, Cond.fieldLink RX0 11 "DroopBoard$Board" "diesels" "[LDroopBoard$Diesel;", Cond.fieldLink RX0 19 "DroopBoard$Board" "feeders" "[LDroopBoard$Feeder;", Cond.fieldLink RX0 23 "DroopBoard$Board" "settings" "[I", Cond.fieldLink RX0 38 "DroopBoard$Board" "ticks" "I", Cond.fieldLink RX0 42 "DroopBoard$Board" "energy" "I", Cond.methodLink RX0 31 yX1_copyFrom, Cond.instanceMethod yX1_copyFrom, Cond.selects RX1 yX1_copyFrom yX1_copyFrom, Cond.initialized RX1, Cond.code yX1_copyFrom cX1_copyFrom 2 none, Cond.fieldLink RX1 16 "DroopBoard$Diesel" "rating" "I", Cond.fieldLink RX1 7 "DroopBoard$Diesel" "droop" "I", Cond.fieldLink RX1 13 "DroopBoard$Diesel" "speed" "I", Cond.fieldLink RX1 19 "DroopBoard$Diesel" "runs" "Z"]
def wsX5_speed_r3 : List Cond := [Cond.fieldLink RX1 23 "DroopBoard$Diesel" "closed" "Z", Cond.fieldLink RX1 26 "DroopBoard$Diesel" "phase" "I", Cond.fieldLink RX1 29 "DroopBoard$Diesel" "overloaded" "I", Cond.fieldLink RX1 32 "DroopBoard$Diesel" "driven" "I", Cond.fieldLink RX1 35 "DroopBoard$Diesel" "energy" "I", Cond.fieldLink RX1 38 "DroopBoard$Diesel" "trips" "I", Cond.methodLink RX0 35 yX2_copyFrom, Cond.instanceMethod yX2_copyFrom, Cond.selects RX2 yX2_copyFrom yX2_copyFrom, Cond.initialized RX2, Cond.code yX2_copyFrom cX2_copyFrom 2 none, Cond.fieldLink RX2 13 "DroopBoard$Feeder" "load" "I", Cond.fieldLink RX2 7 "DroopBoard$Feeder" "on" "Z", Cond.fieldLink RX2 17 "DroopBoard$Feeder" "sheds" "I"]
def wsX5_speed : List Cond := .code yX5_speed cX5_speed 4 (some .int) :: ((wsX5_speed_r1 ++ (wsX5_speed_r2 ++ wsX5_speed_r3)) ++ wsX50 ++ wsX00 ++ wsX10 ++ wsX30 ++ wsX20 ++ (vx_atS RX5 273 "java/lang/IndexOutOfBoundsException" ["java/lang/RuntimeException", "java/lang/Exception"]).filter goodWord ++ (vx_atS RX5 172 "java/lang/IllegalArgumentException" ["java/lang/RuntimeException", "java/lang/Exception"]).filter goodWord)
def wsX5_run_r1 : List Cond := [Cond.classLink RX5 54 "java/lang/IllegalStateException", Cond.initialized "java/lang/IllegalStateException", Cond.fieldLink RX5 10 "DroopBoard" "board" "LDroopBoard$Board;", Cond.fieldLink RX5 44 "DroopBoard$Board" "diesels" "[LDroopBoard$Diesel;", Cond.fieldLink RX5 25 "DroopBoard" "history" "LDroopBoard$History;", Cond.methodLink RX5 36 yX5_needSet, Cond.static yX5_needSet, Cond.initialized RX5, Cond.code yX5_needSet cX5_needSet 1 none, Cond.classLink RX5 269 "java/lang/IndexOutOfBoundsException", Cond.initialized "java/lang/IndexOutOfBoundsException", Cond.methodLink RX5 265 yX5_isSet, Cond.static yX5_isSet, Cond.code yX5_isSet cX5_isSet 1 (some .boolean), Cond.methodLink RX5 75 yX1_canStart, Cond.instanceMethod yX1_canStart, Cond.selects RX1 yX1_canStart yX1_canStart, Cond.initialized RX1, Cond.code yX1_canStart cX1_canStart 1 (some .boolean), Cond.fieldLink RX1 19 "DroopBoard$Diesel" "runs" "Z", Cond.methodLink RX5 61 yX3_save, Cond.instanceMethod yX3_save, Cond.selects RX3 yX3_save yX3_save, Cond.initialized RX3]
def wsX5_run_r2 : List Cond := [Cond.code yX3_save cX3_save 2 none, Cond.fieldLink RX3 18 "DroopBoard$History" "size" "I", Cond.fieldLink RX3 11 "DroopBoard$History" "states" "[LDroopBoard$Board;", Cond.methodLink RX3 22 yX3_dropOldest, Cond.instanceMethod yX3_dropOldest, Cond.selects RX3 yX3_dropOldest yX3_dropOldest, Cond.code yX3_dropOldest cX3_dropOldest 3 none, Cond.methodLink RX3 25 yX0_copyFrom, Cond.instanceMethod yX0_copyFrom, Cond.selects RX0 yX0_copyFrom yX0_copyFrom, Cond.initialized RX0, Cond.code yX0_copyFrom cX0_copyFrom 3 none, Cond.fieldLink RX0 11 "DroopBoard$Board" "diesels" "[LDroopBoard$Diesel;", Cond.fieldLink RX0 19 "DroopBoard$Board" "feeders" "[LDroopBoard$Feeder;", Cond.fieldLink RX0 23 "DroopBoard$Board" "settings" "[I", Cond.fieldLink RX0 38 "DroopBoard$Board" "ticks" "I", Cond.fieldLink RX0 42 "DroopBoard$Board" "energy" "I", Cond.methodLink RX0 31 yX1_copyFrom, Cond.instanceMethod yX1_copyFrom, Cond.selects RX1 yX1_copyFrom yX1_copyFrom, Cond.code yX1_copyFrom cX1_copyFrom 2 none, Cond.fieldLink RX1 16 "DroopBoard$Diesel" "rating" "I", Cond.fieldLink RX1 7 "DroopBoard$Diesel" "droop" "I", Cond.fieldLink RX1 13 "DroopBoard$Diesel" "speed" "I"]
def wsX5_run_r3 : List Cond := [Cond.fieldLink RX1 23 "DroopBoard$Diesel" "closed" "Z", Cond.fieldLink RX1 26 "DroopBoard$Diesel" "phase" "I", Cond.fieldLink RX1 29 "DroopBoard$Diesel" "overloaded" "I", Cond.fieldLink RX1 32 "DroopBoard$Diesel" "driven" "I", Cond.fieldLink RX1 35 "DroopBoard$Diesel" "energy" "I", Cond.fieldLink RX1 38 "DroopBoard$Diesel" "trips" "I", Cond.methodLink RX0 35 yX2_copyFrom, Cond.instanceMethod yX2_copyFrom, Cond.selects RX2 yX2_copyFrom yX2_copyFrom, Cond.initialized RX2, Cond.code yX2_copyFrom cX2_copyFrom 2 none, Cond.fieldLink RX2 13 "DroopBoard$Feeder" "load" "I", Cond.fieldLink RX2 7 "DroopBoard$Feeder" "on" "Z", Cond.fieldLink RX2 17 "DroopBoard$Feeder" "sheds" "I", Cond.methodLink RX5 81 yX1_start, Cond.instanceMethod yX1_start, Cond.selects RX1 yX1_start yX1_start, Cond.code yX1_start cX1_start 1 none, Cond.methodLink RX1 41 yX1_beginAnew, Cond.instanceMethod yX1_beginAnew, Cond.selects RX1 yX1_beginAnew yX1_beginAnew, Cond.code yX1_beginAnew cX1_beginAnew 1 none, Cond.methodLink RX5 84 yX0_running, Cond.instanceMethod yX0_running]
def wsX5_run_r4 : List Cond := [Cond.selects RX0 yX0_running yX0_running, Cond.code yX0_running cX0_running 3 (some .int), Cond.fieldLink RX0 82 "DroopBoard$Diesel" "runs" "Z", Cond.static yX5_oneIf, Cond.code yX5_oneIf cX5_oneIf 1 (some .int)]
def wsX5_run : List Cond := .code yX5_run cX5_run 2 (some .int) :: ((wsX5_run_r1 ++ (wsX5_run_r2 ++ (wsX5_run_r3 ++ wsX5_run_r4))) ++ wsX50 ++ wsX00 ++ wsX10 ++ wsX30 ++ wsX20 ++ (vx_atS RX5 58 "java/lang/IllegalStateException" ["java/lang/RuntimeException", "java/lang/Exception"]).filter goodWord ++ (vx_atS RX5 273 "java/lang/IndexOutOfBoundsException" ["java/lang/RuntimeException", "java/lang/Exception"]).filter goodWord)
def wsX5_halt_r1 : List Cond := [Cond.classLink RX5 54 "java/lang/IllegalStateException", Cond.initialized "java/lang/IllegalStateException", Cond.fieldLink RX5 10 "DroopBoard" "board" "LDroopBoard$Board;", Cond.fieldLink RX5 44 "DroopBoard$Board" "diesels" "[LDroopBoard$Diesel;", Cond.fieldLink RX5 25 "DroopBoard" "history" "LDroopBoard$History;", Cond.methodLink RX5 36 yX5_needSet, Cond.static yX5_needSet, Cond.initialized RX5, Cond.code yX5_needSet cX5_needSet 1 none, Cond.classLink RX5 269 "java/lang/IndexOutOfBoundsException", Cond.initialized "java/lang/IndexOutOfBoundsException", Cond.methodLink RX5 265 yX5_isSet, Cond.static yX5_isSet, Cond.code yX5_isSet cX5_isSet 1 (some .boolean), Cond.methodLink RX5 88 yX1_canStop, Cond.instanceMethod yX1_canStop, Cond.selects RX1 yX1_canStop yX1_canStop, Cond.initialized RX1, Cond.code yX1_canStop cX1_canStop 1 (some .boolean), Cond.fieldLink RX1 19 "DroopBoard$Diesel" "runs" "Z", Cond.fieldLink RX1 23 "DroopBoard$Diesel" "closed" "Z", Cond.methodLink RX5 61 yX3_save, Cond.instanceMethod yX3_save, Cond.selects RX3 yX3_save yX3_save]
def wsX5_halt_r2 : List Cond := [Cond.initialized RX3, Cond.code yX3_save cX3_save 2 none, Cond.fieldLink RX3 18 "DroopBoard$History" "size" "I", Cond.fieldLink RX3 11 "DroopBoard$History" "states" "[LDroopBoard$Board;", Cond.methodLink RX3 22 yX3_dropOldest, Cond.instanceMethod yX3_dropOldest, Cond.selects RX3 yX3_dropOldest yX3_dropOldest, Cond.code yX3_dropOldest cX3_dropOldest 3 none, Cond.methodLink RX3 25 yX0_copyFrom, Cond.instanceMethod yX0_copyFrom, Cond.selects RX0 yX0_copyFrom yX0_copyFrom, Cond.initialized RX0, Cond.code yX0_copyFrom cX0_copyFrom 3 none, Cond.fieldLink RX0 11 "DroopBoard$Board" "diesels" "[LDroopBoard$Diesel;", Cond.fieldLink RX0 19 "DroopBoard$Board" "feeders" "[LDroopBoard$Feeder;", Cond.fieldLink RX0 23 "DroopBoard$Board" "settings" "[I", Cond.fieldLink RX0 38 "DroopBoard$Board" "ticks" "I", Cond.fieldLink RX0 42 "DroopBoard$Board" "energy" "I", Cond.methodLink RX0 31 yX1_copyFrom, Cond.instanceMethod yX1_copyFrom, Cond.selects RX1 yX1_copyFrom yX1_copyFrom, Cond.code yX1_copyFrom cX1_copyFrom 2 none, Cond.fieldLink RX1 16 "DroopBoard$Diesel" "rating" "I", Cond.fieldLink RX1 7 "DroopBoard$Diesel" "droop" "I"]
def wsX5_halt_r3 : List Cond := [Cond.fieldLink RX1 13 "DroopBoard$Diesel" "speed" "I", Cond.fieldLink RX1 26 "DroopBoard$Diesel" "phase" "I", Cond.fieldLink RX1 29 "DroopBoard$Diesel" "overloaded" "I", Cond.fieldLink RX1 32 "DroopBoard$Diesel" "driven" "I", Cond.fieldLink RX1 35 "DroopBoard$Diesel" "energy" "I", Cond.fieldLink RX1 38 "DroopBoard$Diesel" "trips" "I", Cond.methodLink RX0 35 yX2_copyFrom, Cond.instanceMethod yX2_copyFrom, Cond.selects RX2 yX2_copyFrom yX2_copyFrom, Cond.initialized RX2, Cond.code yX2_copyFrom cX2_copyFrom 2 none, Cond.fieldLink RX2 13 "DroopBoard$Feeder" "load" "I", Cond.fieldLink RX2 7 "DroopBoard$Feeder" "on" "Z", Cond.fieldLink RX2 17 "DroopBoard$Feeder" "sheds" "I", Cond.methodLink RX5 93 yX1_stop, Cond.instanceMethod yX1_stop, Cond.selects RX1 yX1_stop yX1_stop, Cond.code yX1_stop cX1_stop 1 none, Cond.methodLink RX1 41 yX1_beginAnew, Cond.instanceMethod yX1_beginAnew, Cond.selects RX1 yX1_beginAnew yX1_beginAnew, Cond.code yX1_beginAnew cX1_beginAnew 1 none, Cond.methodLink RX5 84 yX0_running, Cond.instanceMethod yX0_running]
def wsX5_halt_r4 : List Cond := [Cond.selects RX0 yX0_running yX0_running, Cond.code yX0_running cX0_running 3 (some .int), Cond.fieldLink RX0 82 "DroopBoard$Diesel" "runs" "Z", Cond.static yX5_oneIf, Cond.code yX5_oneIf cX5_oneIf 1 (some .int)]
def wsX5_halt : List Cond := .code yX5_halt cX5_halt 2 (some .int) :: ((wsX5_halt_r1 ++ (wsX5_halt_r2 ++ (wsX5_halt_r3 ++ wsX5_halt_r4))) ++ wsX50 ++ wsX00 ++ wsX10 ++ wsX30 ++ wsX20 ++ (vx_atS RX5 58 "java/lang/IllegalStateException" ["java/lang/RuntimeException", "java/lang/Exception"]).filter goodWord ++ (vx_atS RX5 273 "java/lang/IndexOutOfBoundsException" ["java/lang/RuntimeException", "java/lang/Exception"]).filter goodWord)
def wsX5_close_r1 : List Cond := [Cond.classLink RX5 54 "java/lang/IllegalStateException", Cond.initialized "java/lang/IllegalStateException", Cond.fieldLink RX5 10 "DroopBoard" "board" "LDroopBoard$Board;", Cond.fieldLink RX5 25 "DroopBoard" "history" "LDroopBoard$History;", Cond.fieldLink RX5 44 "DroopBoard$Board" "diesels" "[LDroopBoard$Diesel;", Cond.methodLink RX5 36 yX5_needSet, Cond.static yX5_needSet, Cond.initialized RX5, Cond.code yX5_needSet cX5_needSet 1 none, Cond.classLink RX5 269 "java/lang/IndexOutOfBoundsException", Cond.initialized "java/lang/IndexOutOfBoundsException", Cond.methodLink RX5 265 yX5_isSet, Cond.static yX5_isSet, Cond.code yX5_isSet cX5_isSet 1 (some .boolean), Cond.methodLink RX5 96 yX0_whyNotClosed, Cond.instanceMethod yX0_whyNotClosed, Cond.selects RX0 yX0_whyNotClosed yX0_whyNotClosed, Cond.initialized RX0, Cond.code yX0_whyNotClosed cX0_whyNotClosed 3 (some .int), Cond.fieldLink RX0 11 "DroopBoard$Board" "diesels" "[LDroopBoard$Diesel;", Cond.fieldLink RX0 82 "DroopBoard$Diesel" "runs" "Z", Cond.fieldLink RX0 45 "DroopBoard$Diesel" "closed" "Z", Cond.fieldLink RX0 85 "DroopBoard$Diesel" "speed" "I", Cond.methodLink RX0 91 Lib.Math.abs.name]
def wsX5_close_r2 : List Cond := [Cond.static Lib.Math.abs.name, Cond.initialized "java/lang/Math", Cond.code Lib.Math.abs.name Lib.Math.abs.code 1 (some .int), Cond.fieldLink RX0 23 "DroopBoard$Board" "settings" "[I", Cond.methodLink RX0 49 yX0_alive, Cond.instanceMethod yX0_alive, Cond.selects RX0 yX0_alive yX0_alive, Cond.code yX0_alive cX0_alive 2 (some .boolean), Cond.methodLink RX0 88 yX0_frequency, Cond.instanceMethod yX0_frequency, Cond.selects RX0 yX0_frequency yX0_frequency, Cond.code yX0_frequency cX0_frequency 6 (some .int), Cond.methodLink RX0 63 yX0_demand, Cond.instanceMethod yX0_demand, Cond.selects RX0 yX0_demand yX0_demand, Cond.code yX0_demand cX0_demand 3 (some .int), Cond.fieldLink RX0 19 "DroopBoard$Board" "feeders" "[LDroopBoard$Feeder;", Cond.fieldLink RX0 53 "DroopBoard$Feeder" "on" "Z", Cond.fieldLink RX0 56 "DroopBoard$Feeder" "load" "I", Cond.methodLink RX0 67 yX0_total, Cond.instanceMethod yX0_total, Cond.selects RX0 yX0_total yX0_total, Cond.code yX0_total cX0_total 4 (some .int), Cond.methodLink RX0 59 yX1_gives]
def wsX5_close_r3 : List Cond := [Cond.instanceMethod yX1_gives, Cond.selects RX1 yX1_gives yX1_gives, Cond.initialized RX1, Cond.code yX1_gives cX1_gives 2 (some .int), Cond.fieldLink RX1 23 "DroopBoard$Diesel" "closed" "Z", Cond.fieldLink RX1 7 "DroopBoard$Diesel" "droop" "I", Cond.fieldLink RX1 13 "DroopBoard$Diesel" "speed" "I", Cond.fieldLink RX1 16 "DroopBoard$Diesel" "rating" "I", Cond.methodLink RX0 94 yX1_lamps, Cond.instanceMethod yX1_lamps, Cond.selects RX1 yX1_lamps yX1_lamps, Cond.code yX1_lamps cX1_lamps 1 (some .int), Cond.fieldLink RX1 26 "DroopBoard$Diesel" "phase" "I", Cond.methodLink RX1 44 Lib.Math.min.name, Cond.static Lib.Math.min.name, Cond.code Lib.Math.min.name Lib.Math.min.code 2 (some .int), Cond.methodLink RX5 61 yX3_save, Cond.instanceMethod yX3_save, Cond.selects RX3 yX3_save yX3_save, Cond.initialized RX3, Cond.code yX3_save cX3_save 2 none, Cond.fieldLink RX3 18 "DroopBoard$History" "size" "I", Cond.fieldLink RX3 11 "DroopBoard$History" "states" "[LDroopBoard$Board;", Cond.methodLink RX3 22 yX3_dropOldest]
def wsX5_close_r4 : List Cond := [Cond.instanceMethod yX3_dropOldest, Cond.selects RX3 yX3_dropOldest yX3_dropOldest, Cond.code yX3_dropOldest cX3_dropOldest 3 none, Cond.methodLink RX3 25 yX0_copyFrom, Cond.instanceMethod yX0_copyFrom, Cond.selects RX0 yX0_copyFrom yX0_copyFrom, Cond.code yX0_copyFrom cX0_copyFrom 3 none, Cond.fieldLink RX0 38 "DroopBoard$Board" "ticks" "I", Cond.fieldLink RX0 42 "DroopBoard$Board" "energy" "I", Cond.methodLink RX0 31 yX1_copyFrom, Cond.instanceMethod yX1_copyFrom, Cond.selects RX1 yX1_copyFrom yX1_copyFrom, Cond.code yX1_copyFrom cX1_copyFrom 2 none, Cond.fieldLink RX1 19 "DroopBoard$Diesel" "runs" "Z", Cond.fieldLink RX1 29 "DroopBoard$Diesel" "overloaded" "I", Cond.fieldLink RX1 32 "DroopBoard$Diesel" "driven" "I", Cond.fieldLink RX1 35 "DroopBoard$Diesel" "energy" "I", Cond.fieldLink RX1 38 "DroopBoard$Diesel" "trips" "I", Cond.methodLink RX0 35 yX2_copyFrom, Cond.instanceMethod yX2_copyFrom, Cond.selects RX2 yX2_copyFrom yX2_copyFrom, Cond.initialized RX2, Cond.code yX2_copyFrom cX2_copyFrom 2 none, Cond.fieldLink RX2 13 "DroopBoard$Feeder" "load" "I"]
def wsX5_close_r5 : List Cond := [Cond.fieldLink RX2 7 "DroopBoard$Feeder" "on" "Z", Cond.fieldLink RX2 17 "DroopBoard$Feeder" "sheds" "I", Cond.methodLink RX5 102 yX1_closeBreaker, Cond.instanceMethod yX1_closeBreaker, Cond.selects RX1 yX1_closeBreaker yX1_closeBreaker, Cond.code yX1_closeBreaker cX1_closeBreaker 1 none, Cond.methodLink RX1 41 yX1_beginAnew, Cond.instanceMethod yX1_beginAnew, Cond.selects RX1 yX1_beginAnew yX1_beginAnew, Cond.code yX1_beginAnew cX1_beginAnew 1 none, Cond.methodLink RX5 105 yX0_frequency]
def wsX5_close : List Cond := .code yX5_close cX5_close 2 (some .int) :: ((wsX5_close_r1 ++ (wsX5_close_r2 ++ (wsX5_close_r3 ++ (wsX5_close_r4 ++ wsX5_close_r5)))) ++ wsX50 ++ wsX00 ++ wsX10 ++ wsX20 ++ wsX30 ++ (vx_atS RX5 58 "java/lang/IllegalStateException" ["java/lang/RuntimeException", "java/lang/Exception"]).filter goodWord ++ (vx_atS RX5 273 "java/lang/IndexOutOfBoundsException" ["java/lang/RuntimeException", "java/lang/Exception"]).filter goodWord)
def wsX5_open_r1 : List Cond := [Cond.classLink RX5 54 "java/lang/IllegalStateException", Cond.initialized "java/lang/IllegalStateException", Cond.fieldLink RX5 10 "DroopBoard" "board" "LDroopBoard$Board;", Cond.fieldLink RX5 44 "DroopBoard$Board" "diesels" "[LDroopBoard$Diesel;", Cond.fieldLink RX5 108 "DroopBoard$Diesel" "closed" "Z", Cond.fieldLink RX5 25 "DroopBoard" "history" "LDroopBoard$History;", Cond.methodLink RX5 36 yX5_needSet, Cond.static yX5_needSet, Cond.initialized RX5, Cond.code yX5_needSet cX5_needSet 1 none, Cond.classLink RX5 269 "java/lang/IndexOutOfBoundsException", Cond.initialized "java/lang/IndexOutOfBoundsException", Cond.methodLink RX5 265 yX5_isSet, Cond.static yX5_isSet, Cond.code yX5_isSet cX5_isSet 1 (some .boolean), Cond.methodLink RX5 61 yX3_save, Cond.instanceMethod yX3_save, Cond.selects RX3 yX3_save yX3_save, Cond.initialized RX3, Cond.code yX3_save cX3_save 2 none, Cond.fieldLink RX3 18 "DroopBoard$History" "size" "I", Cond.fieldLink RX3 11 "DroopBoard$History" "states" "[LDroopBoard$Board;", Cond.methodLink RX3 22 yX3_dropOldest, Cond.instanceMethod yX3_dropOldest]
def wsX5_open_r2 : List Cond := [Cond.selects RX3 yX3_dropOldest yX3_dropOldest, Cond.code yX3_dropOldest cX3_dropOldest 3 none, Cond.methodLink RX3 25 yX0_copyFrom, Cond.instanceMethod yX0_copyFrom, Cond.selects RX0 yX0_copyFrom yX0_copyFrom, Cond.initialized RX0, Cond.code yX0_copyFrom cX0_copyFrom 3 none, Cond.fieldLink RX0 11 "DroopBoard$Board" "diesels" "[LDroopBoard$Diesel;", Cond.fieldLink RX0 19 "DroopBoard$Board" "feeders" "[LDroopBoard$Feeder;", Cond.fieldLink RX0 23 "DroopBoard$Board" "settings" "[I", Cond.fieldLink RX0 38 "DroopBoard$Board" "ticks" "I", Cond.fieldLink RX0 42 "DroopBoard$Board" "energy" "I", Cond.methodLink RX0 31 yX1_copyFrom, Cond.instanceMethod yX1_copyFrom, Cond.selects RX1 yX1_copyFrom yX1_copyFrom, Cond.initialized RX1, Cond.code yX1_copyFrom cX1_copyFrom 2 none, Cond.fieldLink RX1 16 "DroopBoard$Diesel" "rating" "I", Cond.fieldLink RX1 7 "DroopBoard$Diesel" "droop" "I", Cond.fieldLink RX1 13 "DroopBoard$Diesel" "speed" "I", Cond.fieldLink RX1 19 "DroopBoard$Diesel" "runs" "Z", Cond.fieldLink RX1 23 "DroopBoard$Diesel" "closed" "Z", Cond.fieldLink RX1 26 "DroopBoard$Diesel" "phase" "I", Cond.fieldLink RX1 29 "DroopBoard$Diesel" "overloaded" "I"]
def wsX5_open_r3 : List Cond := [Cond.fieldLink RX1 32 "DroopBoard$Diesel" "driven" "I", Cond.fieldLink RX1 35 "DroopBoard$Diesel" "energy" "I", Cond.fieldLink RX1 38 "DroopBoard$Diesel" "trips" "I", Cond.methodLink RX0 35 yX2_copyFrom, Cond.instanceMethod yX2_copyFrom, Cond.selects RX2 yX2_copyFrom yX2_copyFrom, Cond.initialized RX2, Cond.code yX2_copyFrom cX2_copyFrom 2 none, Cond.fieldLink RX2 13 "DroopBoard$Feeder" "load" "I", Cond.fieldLink RX2 7 "DroopBoard$Feeder" "on" "Z", Cond.fieldLink RX2 17 "DroopBoard$Feeder" "sheds" "I", Cond.methodLink RX5 113 yX1_openBreaker, Cond.instanceMethod yX1_openBreaker, Cond.selects RX1 yX1_openBreaker yX1_openBreaker, Cond.code yX1_openBreaker cX1_openBreaker 1 none, Cond.methodLink RX1 41 yX1_beginAnew, Cond.instanceMethod yX1_beginAnew, Cond.selects RX1 yX1_beginAnew yX1_beginAnew, Cond.code yX1_beginAnew cX1_beginAnew 1 none, Cond.methodLink RX5 105 yX0_frequency, Cond.instanceMethod yX0_frequency, Cond.selects RX0 yX0_frequency yX0_frequency, Cond.code yX0_frequency cX0_frequency 6 (some .int), Cond.methodLink RX0 49 yX0_alive]
def wsX5_open_r4 : List Cond := [Cond.instanceMethod yX0_alive, Cond.selects RX0 yX0_alive yX0_alive, Cond.code yX0_alive cX0_alive 2 (some .boolean), Cond.fieldLink RX0 45 "DroopBoard$Diesel" "closed" "Z", Cond.methodLink RX0 63 yX0_demand, Cond.instanceMethod yX0_demand, Cond.selects RX0 yX0_demand yX0_demand, Cond.code yX0_demand cX0_demand 3 (some .int), Cond.fieldLink RX0 53 "DroopBoard$Feeder" "on" "Z", Cond.fieldLink RX0 56 "DroopBoard$Feeder" "load" "I", Cond.methodLink RX0 67 yX0_total, Cond.instanceMethod yX0_total, Cond.selects RX0 yX0_total yX0_total, Cond.code yX0_total cX0_total 4 (some .int), Cond.methodLink RX0 59 yX1_gives, Cond.instanceMethod yX1_gives, Cond.selects RX1 yX1_gives yX1_gives, Cond.code yX1_gives cX1_gives 2 (some .int)]
def wsX5_open : List Cond := .code yX5_open cX5_open 2 (some .int) :: ((wsX5_open_r1 ++ (wsX5_open_r2 ++ (wsX5_open_r3 ++ wsX5_open_r4))) ++ wsX50 ++ wsX00 ++ wsX10 ++ wsX30 ++ wsX20 ++ (vx_atS RX5 58 "java/lang/IllegalStateException" ["java/lang/RuntimeException", "java/lang/Exception"]).filter goodWord ++ (vx_atS RX5 273 "java/lang/IndexOutOfBoundsException" ["java/lang/RuntimeException", "java/lang/Exception"]).filter goodWord)
def wsX5_isFeeder : List Cond := .code yX5_isFeeder cX5_isFeeder 1 (some .boolean) :: ([])
def wsX5_needFeeder : List Cond := .code yX5_needFeeder cX5_needFeeder 1 none :: ([.classLink RX5 269 "java/lang/IndexOutOfBoundsException", .initialized "java/lang/IndexOutOfBoundsException", .methodLink RX5 274 yX5_isFeeder, .static yX5_isFeeder, .initialized RX5, .code yX5_isFeeder cX5_isFeeder 1 (some .boolean)] ++ (vx_atS RX5 273 "java/lang/IndexOutOfBoundsException" ["java/lang/RuntimeException", "java/lang/Exception"]).filter goodWord)
def wsX5_load_r1 : List Cond := [Cond.fieldLink RX5 25 "DroopBoard" "history" "LDroopBoard$History;", Cond.fieldLink RX5 10 "DroopBoard" "board" "LDroopBoard$Board;", Cond.fieldLink RX5 119 "DroopBoard$Board" "feeders" "[LDroopBoard$Feeder;", Cond.fieldLink RX5 123 "DroopBoard$Feeder" "load" "I", Cond.methodLink RX5 116 yX5_needFeeder, Cond.static yX5_needFeeder, Cond.initialized RX5, Cond.code yX5_needFeeder cX5_needFeeder 1 none, Cond.classLink RX5 269 "java/lang/IndexOutOfBoundsException", Cond.initialized "java/lang/IndexOutOfBoundsException", Cond.methodLink RX5 274 yX5_isFeeder, Cond.static yX5_isFeeder, Cond.code yX5_isFeeder cX5_isFeeder 1 (some .boolean), Cond.methodLink RX5 40 yX5_needRange, Cond.static yX5_needRange, Cond.code yX5_needRange cX5_needRange 3 none, Cond.classLink RX5 168 "java/lang/IllegalArgumentException", Cond.initialized "java/lang/IllegalArgumentException", Cond.methodLink RX5 61 yX3_save, Cond.instanceMethod yX3_save, Cond.selects RX3 yX3_save yX3_save, Cond.initialized RX3, Cond.code yX3_save cX3_save 2 none, Cond.fieldLink RX3 18 "DroopBoard$History" "size" "I"]
def wsX5_load_r2 : List Cond := [Cond.fieldLink RX3 11 "DroopBoard$History" "states" "[LDroopBoard$Board;", Cond.methodLink RX3 22 yX3_dropOldest, Cond.instanceMethod yX3_dropOldest, Cond.selects RX3 yX3_dropOldest yX3_dropOldest, Cond.code yX3_dropOldest cX3_dropOldest 3 none, Cond.methodLink RX3 25 yX0_copyFrom, Cond.instanceMethod yX0_copyFrom, Cond.selects RX0 yX0_copyFrom yX0_copyFrom, Cond.initialized RX0, Cond.code yX0_copyFrom cX0_copyFrom 3 none, Cond.fieldLink RX0 11 "DroopBoard$Board" "diesels" "[LDroopBoard$Diesel;", Cond.fieldLink RX0 19 "DroopBoard$Board" "feeders" "[LDroopBoard$Feeder;", Cond.fieldLink RX0 23 "DroopBoard$Board" "settings" "[I", Cond.fieldLink RX0 38 "DroopBoard$Board" "ticks" "I", Cond.fieldLink RX0 42 "DroopBoard$Board" "energy" "I", Cond.methodLink RX0 31 yX1_copyFrom, Cond.instanceMethod yX1_copyFrom, Cond.selects RX1 yX1_copyFrom yX1_copyFrom, Cond.initialized RX1, Cond.code yX1_copyFrom cX1_copyFrom 2 none, Cond.fieldLink RX1 16 "DroopBoard$Diesel" "rating" "I", Cond.fieldLink RX1 7 "DroopBoard$Diesel" "droop" "I", Cond.fieldLink RX1 13 "DroopBoard$Diesel" "speed" "I", Cond.fieldLink RX1 19 "DroopBoard$Diesel" "runs" "Z"]
def wsX5_load_r3 : List Cond := [Cond.fieldLink RX1 23 "DroopBoard$Diesel" "closed" "Z", Cond.fieldLink RX1 26 "DroopBoard$Diesel" "phase" "I", Cond.fieldLink RX1 29 "DroopBoard$Diesel" "overloaded" "I", Cond.fieldLink RX1 32 "DroopBoard$Diesel" "driven" "I", Cond.fieldLink RX1 35 "DroopBoard$Diesel" "energy" "I", Cond.fieldLink RX1 38 "DroopBoard$Diesel" "trips" "I", Cond.methodLink RX0 35 yX2_copyFrom, Cond.instanceMethod yX2_copyFrom, Cond.selects RX2 yX2_copyFrom yX2_copyFrom, Cond.initialized RX2, Cond.code yX2_copyFrom cX2_copyFrom 2 none, Cond.fieldLink RX2 13 "DroopBoard$Feeder" "load" "I", Cond.fieldLink RX2 7 "DroopBoard$Feeder" "on" "Z", Cond.fieldLink RX2 17 "DroopBoard$Feeder" "sheds" "I"]
def wsX5_load : List Cond := .code yX5_load cX5_load 4 (some .int) :: ((wsX5_load_r1 ++ (wsX5_load_r2 ++ wsX5_load_r3)) ++ wsX50 ++ wsX00 ++ wsX20 ++ wsX30 ++ wsX10 ++ (vx_atS RX5 273 "java/lang/IndexOutOfBoundsException" ["java/lang/RuntimeException", "java/lang/Exception"]).filter goodWord ++ (vx_atS RX5 172 "java/lang/IllegalArgumentException" ["java/lang/RuntimeException", "java/lang/Exception"]).filter goodWord)
def wsX5_feeder_r1 : List Cond := [Cond.fieldLink RX5 25 "DroopBoard" "history" "LDroopBoard$History;", Cond.fieldLink RX5 10 "DroopBoard" "board" "LDroopBoard$Board;", Cond.fieldLink RX5 119 "DroopBoard$Board" "feeders" "[LDroopBoard$Feeder;", Cond.fieldLink RX5 128 "DroopBoard$Feeder" "on" "Z", Cond.methodLink RX5 116 yX5_needFeeder, Cond.static yX5_needFeeder, Cond.initialized RX5, Cond.code yX5_needFeeder cX5_needFeeder 1 none, Cond.classLink RX5 269 "java/lang/IndexOutOfBoundsException", Cond.initialized "java/lang/IndexOutOfBoundsException", Cond.methodLink RX5 274 yX5_isFeeder, Cond.static yX5_isFeeder, Cond.code yX5_isFeeder cX5_isFeeder 1 (some .boolean), Cond.methodLink RX5 40 yX5_needRange, Cond.static yX5_needRange, Cond.code yX5_needRange cX5_needRange 3 none, Cond.classLink RX5 168 "java/lang/IllegalArgumentException", Cond.initialized "java/lang/IllegalArgumentException", Cond.methodLink RX5 61 yX3_save, Cond.instanceMethod yX3_save, Cond.selects RX3 yX3_save yX3_save, Cond.initialized RX3, Cond.code yX3_save cX3_save 2 none, Cond.fieldLink RX3 18 "DroopBoard$History" "size" "I"]
def wsX5_feeder_r2 : List Cond := [Cond.fieldLink RX3 11 "DroopBoard$History" "states" "[LDroopBoard$Board;", Cond.methodLink RX3 22 yX3_dropOldest, Cond.instanceMethod yX3_dropOldest, Cond.selects RX3 yX3_dropOldest yX3_dropOldest, Cond.code yX3_dropOldest cX3_dropOldest 3 none, Cond.methodLink RX3 25 yX0_copyFrom, Cond.instanceMethod yX0_copyFrom, Cond.selects RX0 yX0_copyFrom yX0_copyFrom, Cond.initialized RX0, Cond.code yX0_copyFrom cX0_copyFrom 3 none, Cond.fieldLink RX0 11 "DroopBoard$Board" "diesels" "[LDroopBoard$Diesel;", Cond.fieldLink RX0 19 "DroopBoard$Board" "feeders" "[LDroopBoard$Feeder;", Cond.fieldLink RX0 23 "DroopBoard$Board" "settings" "[I", Cond.fieldLink RX0 38 "DroopBoard$Board" "ticks" "I", Cond.fieldLink RX0 42 "DroopBoard$Board" "energy" "I", Cond.methodLink RX0 31 yX1_copyFrom, Cond.instanceMethod yX1_copyFrom, Cond.selects RX1 yX1_copyFrom yX1_copyFrom, Cond.initialized RX1, Cond.code yX1_copyFrom cX1_copyFrom 2 none, Cond.fieldLink RX1 16 "DroopBoard$Diesel" "rating" "I", Cond.fieldLink RX1 7 "DroopBoard$Diesel" "droop" "I", Cond.fieldLink RX1 13 "DroopBoard$Diesel" "speed" "I", Cond.fieldLink RX1 19 "DroopBoard$Diesel" "runs" "Z"]
def wsX5_feeder_r3 : List Cond := [Cond.fieldLink RX1 23 "DroopBoard$Diesel" "closed" "Z", Cond.fieldLink RX1 26 "DroopBoard$Diesel" "phase" "I", Cond.fieldLink RX1 29 "DroopBoard$Diesel" "overloaded" "I", Cond.fieldLink RX1 32 "DroopBoard$Diesel" "driven" "I", Cond.fieldLink RX1 35 "DroopBoard$Diesel" "energy" "I", Cond.fieldLink RX1 38 "DroopBoard$Diesel" "trips" "I", Cond.methodLink RX0 35 yX2_copyFrom, Cond.instanceMethod yX2_copyFrom, Cond.selects RX2 yX2_copyFrom yX2_copyFrom, Cond.initialized RX2, Cond.code yX2_copyFrom cX2_copyFrom 2 none, Cond.fieldLink RX2 13 "DroopBoard$Feeder" "load" "I", Cond.fieldLink RX2 7 "DroopBoard$Feeder" "on" "Z", Cond.fieldLink RX2 17 "DroopBoard$Feeder" "sheds" "I", Cond.methodLink RX5 131 yX5_oneIf, Cond.static yX5_oneIf, Cond.code yX5_oneIf cX5_oneIf 1 (some .int)]
def wsX5_feeder : List Cond := .code yX5_feeder cX5_feeder 4 (some .int) :: ((wsX5_feeder_r1 ++ (wsX5_feeder_r2 ++ wsX5_feeder_r3)) ++ wsX50 ++ wsX00 ++ wsX20 ++ wsX30 ++ wsX10 ++ (vx_atS RX5 273 "java/lang/IndexOutOfBoundsException" ["java/lang/RuntimeException", "java/lang/Exception"]).filter goodWord ++ (vx_atS RX5 172 "java/lang/IllegalArgumentException" ["java/lang/RuntimeException", "java/lang/Exception"]).filter goodWord)
def wsX5_pass_r1 : List Cond := [Cond.fieldLink RX5 25 "DroopBoard" "history" "LDroopBoard$History;", Cond.fieldLink RX5 10 "DroopBoard" "board" "LDroopBoard$Board;", Cond.methodLink RX5 40 yX5_needRange, Cond.static yX5_needRange, Cond.initialized RX5, Cond.code yX5_needRange cX5_needRange 3 none, Cond.classLink RX5 168 "java/lang/IllegalArgumentException", Cond.initialized "java/lang/IllegalArgumentException", Cond.methodLink RX5 61 yX3_save, Cond.instanceMethod yX3_save, Cond.selects RX3 yX3_save yX3_save, Cond.initialized RX3, Cond.code yX3_save cX3_save 2 none, Cond.fieldLink RX3 18 "DroopBoard$History" "size" "I", Cond.fieldLink RX3 11 "DroopBoard$History" "states" "[LDroopBoard$Board;", Cond.methodLink RX3 22 yX3_dropOldest, Cond.instanceMethod yX3_dropOldest, Cond.selects RX3 yX3_dropOldest yX3_dropOldest, Cond.code yX3_dropOldest cX3_dropOldest 3 none, Cond.methodLink RX3 25 yX0_copyFrom, Cond.instanceMethod yX0_copyFrom, Cond.selects RX0 yX0_copyFrom yX0_copyFrom, Cond.initialized RX0, Cond.code yX0_copyFrom cX0_copyFrom 3 none]
def wsX5_pass_r2 : List Cond := [Cond.fieldLink RX0 11 "DroopBoard$Board" "diesels" "[LDroopBoard$Diesel;", Cond.fieldLink RX0 19 "DroopBoard$Board" "feeders" "[LDroopBoard$Feeder;", Cond.fieldLink RX0 23 "DroopBoard$Board" "settings" "[I", Cond.fieldLink RX0 38 "DroopBoard$Board" "ticks" "I", Cond.fieldLink RX0 42 "DroopBoard$Board" "energy" "I", Cond.methodLink RX0 31 yX1_copyFrom, Cond.instanceMethod yX1_copyFrom, Cond.selects RX1 yX1_copyFrom yX1_copyFrom, Cond.initialized RX1, Cond.code yX1_copyFrom cX1_copyFrom 2 none, Cond.fieldLink RX1 16 "DroopBoard$Diesel" "rating" "I", Cond.fieldLink RX1 7 "DroopBoard$Diesel" "droop" "I", Cond.fieldLink RX1 13 "DroopBoard$Diesel" "speed" "I", Cond.fieldLink RX1 19 "DroopBoard$Diesel" "runs" "Z", Cond.fieldLink RX1 23 "DroopBoard$Diesel" "closed" "Z", Cond.fieldLink RX1 26 "DroopBoard$Diesel" "phase" "I", Cond.fieldLink RX1 29 "DroopBoard$Diesel" "overloaded" "I", Cond.fieldLink RX1 32 "DroopBoard$Diesel" "driven" "I", Cond.fieldLink RX1 35 "DroopBoard$Diesel" "energy" "I", Cond.fieldLink RX1 38 "DroopBoard$Diesel" "trips" "I", Cond.methodLink RX0 35 yX2_copyFrom, Cond.instanceMethod yX2_copyFrom, Cond.selects RX2 yX2_copyFrom yX2_copyFrom, Cond.initialized RX2]
def wsX5_pass_r3 : List Cond := [Cond.code yX2_copyFrom cX2_copyFrom 2 none, Cond.fieldLink RX2 13 "DroopBoard$Feeder" "load" "I", Cond.fieldLink RX2 7 "DroopBoard$Feeder" "on" "Z", Cond.fieldLink RX2 17 "DroopBoard$Feeder" "sheds" "I", Cond.methodLink RX5 135 yX0_passTicks, Cond.instanceMethod yX0_passTicks, Cond.selects RX0 yX0_passTicks yX0_passTicks, Cond.code yX0_passTicks cX0_passTicks 4 (some .int), Cond.methodLink RX0 97 yX0_tick, Cond.instanceMethod yX0_tick, Cond.selects RX0 yX0_tick yX0_tick, Cond.code yX0_tick cX0_tick 4 (some .int), Cond.methodLink RX0 88 yX0_frequency, Cond.instanceMethod yX0_frequency, Cond.selects RX0 yX0_frequency yX0_frequency, Cond.code yX0_frequency cX0_frequency 6 (some .int), Cond.methodLink RX0 49 yX0_alive, Cond.instanceMethod yX0_alive, Cond.selects RX0 yX0_alive yX0_alive, Cond.code yX0_alive cX0_alive 2 (some .boolean), Cond.fieldLink RX0 45 "DroopBoard$Diesel" "closed" "Z", Cond.methodLink RX0 63 yX0_demand, Cond.instanceMethod yX0_demand, Cond.selects RX0 yX0_demand yX0_demand]
def wsX5_pass_r4 : List Cond := [Cond.code yX0_demand cX0_demand 3 (some .int), Cond.fieldLink RX0 53 "DroopBoard$Feeder" "on" "Z", Cond.fieldLink RX0 56 "DroopBoard$Feeder" "load" "I", Cond.methodLink RX0 67 yX0_total, Cond.instanceMethod yX0_total, Cond.selects RX0 yX0_total yX0_total, Cond.code yX0_total cX0_total 4 (some .int), Cond.methodLink RX0 59 yX1_gives, Cond.instanceMethod yX1_gives, Cond.selects RX1 yX1_gives yX1_gives, Cond.code yX1_gives cX1_gives 2 (some .int), Cond.methodLink RX0 100 yX0_lack, Cond.instanceMethod yX0_lack, Cond.selects RX0 yX0_lack yX0_lack, Cond.code yX0_lack cX0_lack 2 (some .int), Cond.methodLink RX0 73 Lib.Math.max.name, Cond.static Lib.Math.max.name, Cond.initialized "java/lang/Math", Cond.code Lib.Math.max.name Lib.Math.max.code 2 (some .int), Cond.methodLink RX0 79 yX0_power, Cond.instanceMethod yX0_power, Cond.selects RX0 yX0_power yX0_power, Cond.code yX0_power cX0_power 4 (some .int), Cond.methodLink RX0 70 yX0_lowestClosed]
def wsX5_pass_r5 : List Cond := [Cond.instanceMethod yX0_lowestClosed, Cond.selects RX0 yX0_lowestClosed yX0_lowestClosed, Cond.code yX0_lowestClosed cX0_lowestClosed 2 (some .int), Cond.methodLink RX0 103 yX1_tick, Cond.instanceMethod yX1_tick, Cond.selects RX1 yX1_tick yX1_tick, Cond.code yX1_tick cX1_tick 3 none, Cond.methodLink RX1 50 yJ9_floorMod_7cf53, Cond.static yJ9_floorMod_7cf53, Cond.initialized RJ9, Cond.code yJ9_floorMod_7cf53 cJ9_floorMod_7cf53 3 (some .int), Cond.methodLink RX0 106 yX0_shed, Cond.instanceMethod yX0_shed, Cond.selects RX0 yX0_shed yX0_shed, Cond.code yX0_shed cX0_shed 2 none, Cond.fieldLink RX0 112 "DroopBoard$Feeder" "sheds" "I", Cond.methodLink RX0 109 yX0_trip, Cond.instanceMethod yX0_trip, Cond.selects RX0 yX0_trip yX0_trip, Cond.code yX0_trip cX0_trip 4 (some .int), Cond.fieldLink RX0 115 "DroopBoard$Diesel" "overloaded" "I", Cond.fieldLink RX0 118 "DroopBoard$Diesel" "driven" "I", Cond.fieldLink RX0 124 "DroopBoard$Diesel" "trips" "I", Cond.methodLink RX0 121 yX1_openBreaker]
def wsX5_pass_r6 : List Cond := [Cond.instanceMethod yX1_openBreaker, Cond.selects RX1 yX1_openBreaker yX1_openBreaker, Cond.code yX1_openBreaker cX1_openBreaker 1 none, Cond.methodLink RX1 41 yX1_beginAnew, Cond.instanceMethod yX1_beginAnew, Cond.selects RX1 yX1_beginAnew yX1_beginAnew, Cond.code yX1_beginAnew cX1_beginAnew 1 none]
def wsX5_pass : List Cond := .code yX5_pass cX5_pass 2 (some .int) :: ((wsX5_pass_r1 ++ (wsX5_pass_r2 ++ (wsX5_pass_r3 ++ (wsX5_pass_r4 ++ (wsX5_pass_r5 ++ wsX5_pass_r6))))) ++ wsX50 ++ wsX30 ++ wsX00 ++ wsX10 ++ wsX20 ++ (vx_atS RX5 172 "java/lang/IllegalArgumentException" ["java/lang/RuntimeException", "java/lang/Exception"]).filter goodWord)
def wsX5_needSetting : List Cond := .code yX5_needSetting cX5_needSetting 1 none :: ([.classLink RX5 269 "java/lang/IndexOutOfBoundsException", .initialized "java/lang/IndexOutOfBoundsException"] ++ (vx_atS RX5 273 "java/lang/IndexOutOfBoundsException" ["java/lang/RuntimeException", "java/lang/Exception"]).filter goodWord)
def wsX5_set_r1 : List Cond := [Cond.fieldLink RX5 141 "DroopBoard" "LEAST_OF_SETTING" "[I", Cond.fieldLink RX5 145 "DroopBoard" "MOST_OF_SETTING" "[I", Cond.fieldLink RX5 25 "DroopBoard" "history" "LDroopBoard$History;", Cond.fieldLink RX5 10 "DroopBoard" "board" "LDroopBoard$Board;", Cond.fieldLink RX5 148 "DroopBoard$Board" "settings" "[I", Cond.methodLink RX5 138 yX5_needSetting, Cond.static yX5_needSetting, Cond.initialized RX5, Cond.code yX5_needSetting cX5_needSetting 1 none, Cond.classLink RX5 269 "java/lang/IndexOutOfBoundsException", Cond.initialized "java/lang/IndexOutOfBoundsException", Cond.methodLink RX5 40 yX5_needRange, Cond.static yX5_needRange, Cond.code yX5_needRange cX5_needRange 3 none, Cond.classLink RX5 168 "java/lang/IllegalArgumentException", Cond.initialized "java/lang/IllegalArgumentException", Cond.methodLink RX5 61 yX3_save, Cond.instanceMethod yX3_save, Cond.selects RX3 yX3_save yX3_save, Cond.initialized RX3, Cond.code yX3_save cX3_save 2 none, Cond.fieldLink RX3 18 "DroopBoard$History" "size" "I", Cond.fieldLink RX3 11 "DroopBoard$History" "states" "[LDroopBoard$Board;", Cond.methodLink RX3 22 yX3_dropOldest]
def wsX5_set_r2 : List Cond := [Cond.instanceMethod yX3_dropOldest, Cond.selects RX3 yX3_dropOldest yX3_dropOldest, Cond.code yX3_dropOldest cX3_dropOldest 3 none, Cond.methodLink RX3 25 yX0_copyFrom, Cond.instanceMethod yX0_copyFrom, Cond.selects RX0 yX0_copyFrom yX0_copyFrom, Cond.initialized RX0, Cond.code yX0_copyFrom cX0_copyFrom 3 none, Cond.fieldLink RX0 11 "DroopBoard$Board" "diesels" "[LDroopBoard$Diesel;", Cond.fieldLink RX0 19 "DroopBoard$Board" "feeders" "[LDroopBoard$Feeder;", Cond.fieldLink RX0 23 "DroopBoard$Board" "settings" "[I", Cond.fieldLink RX0 38 "DroopBoard$Board" "ticks" "I", Cond.fieldLink RX0 42 "DroopBoard$Board" "energy" "I", Cond.methodLink RX0 31 yX1_copyFrom, Cond.instanceMethod yX1_copyFrom, Cond.selects RX1 yX1_copyFrom yX1_copyFrom, Cond.initialized RX1, Cond.code yX1_copyFrom cX1_copyFrom 2 none, Cond.fieldLink RX1 16 "DroopBoard$Diesel" "rating" "I", Cond.fieldLink RX1 7 "DroopBoard$Diesel" "droop" "I", Cond.fieldLink RX1 13 "DroopBoard$Diesel" "speed" "I", Cond.fieldLink RX1 19 "DroopBoard$Diesel" "runs" "Z", Cond.fieldLink RX1 23 "DroopBoard$Diesel" "closed" "Z", Cond.fieldLink RX1 26 "DroopBoard$Diesel" "phase" "I"]
def wsX5_set_r3 : List Cond := [Cond.fieldLink RX1 29 "DroopBoard$Diesel" "overloaded" "I", Cond.fieldLink RX1 32 "DroopBoard$Diesel" "driven" "I", Cond.fieldLink RX1 35 "DroopBoard$Diesel" "energy" "I", Cond.fieldLink RX1 38 "DroopBoard$Diesel" "trips" "I", Cond.methodLink RX0 35 yX2_copyFrom, Cond.instanceMethod yX2_copyFrom, Cond.selects RX2 yX2_copyFrom yX2_copyFrom, Cond.initialized RX2, Cond.code yX2_copyFrom cX2_copyFrom 2 none, Cond.fieldLink RX2 13 "DroopBoard$Feeder" "load" "I", Cond.fieldLink RX2 7 "DroopBoard$Feeder" "on" "Z", Cond.fieldLink RX2 17 "DroopBoard$Feeder" "sheds" "I"]
def wsX5_set : List Cond := .code yX5_set cX5_set 4 (some .int) :: ((wsX5_set_r1 ++ (wsX5_set_r2 ++ wsX5_set_r3)) ++ wsX50 ++ wsX00 ++ wsX30 ++ wsX10 ++ wsX20 ++ (vx_atS RX5 273 "java/lang/IndexOutOfBoundsException" ["java/lang/RuntimeException", "java/lang/Exception"]).filter goodWord ++ (vx_atS RX5 172 "java/lang/IllegalArgumentException" ["java/lang/RuntimeException", "java/lang/Exception"]).filter goodWord)
def wsX5_append : List Cond := .code yX5_append cX5_append 2 (some .int) :: ([.classLink RX5 54 "java/lang/IllegalStateException", .initialized "java/lang/IllegalStateException", .fieldLink RX5 32 "DroopBoard" "text" "LDroopBoard$OrderText;", .fieldLink RX5 159 "DroopBoard$OrderText" "length" "I", .methodLink RX5 40 yX5_needRange, .static yX5_needRange, .initialized RX5, .code yX5_needRange cX5_needRange 3 none, .classLink RX5 168 "java/lang/IllegalArgumentException", .initialized "java/lang/IllegalArgumentException", .methodLink RX5 151 yX4_isFull, .instanceMethod yX4_isFull, .selects RX4 yX4_isFull yX4_isFull, .initialized RX4, .code yX4_isFull cX4_isFull 1 (some .boolean), .fieldLink RX4 15 "DroopBoard$OrderText" "length" "I", .fieldLink RX4 9 "DroopBoard$OrderText" "codes" "[I", .methodLink RX5 156 yX4_add, .instanceMethod yX4_add, .selects RX4 yX4_add yX4_add, .code yX4_add cX4_add 2 none, .methodLink RX4 19 yX4_isFull] ++ wsX50 ++ wsX40 ++ (vx_atS RX5 58 "java/lang/IllegalStateException" ["java/lang/RuntimeException", "java/lang/Exception"]).filter goodWord ++ (vx_atS RX5 172 "java/lang/IllegalArgumentException" ["java/lang/RuntimeException", "java/lang/Exception"]).filter goodWord)
def wsX5_clearBuffer : List Cond := .code yX5_clearBuffer cX5_clearBuffer 2 (some .int) :: ([.fieldLink RX5 32 "DroopBoard" "text" "LDroopBoard$OrderText;", .fieldLink RX5 159 "DroopBoard$OrderText" "length" "I"] ++ wsX50 ++ wsX40)
def wsX5_firstError : List Cond := .code yX5_firstError cX5_firstError 1 (some .int) :: ([.fieldLink RX5 32 "DroopBoard" "text" "LDroopBoard$OrderText;", .methodLink RX5 162 yX4_firstWrong, .instanceMethod yX4_firstWrong, .selects RX4 yX4_firstWrong yX4_firstWrong, .initialized RX4, .code yX4_firstWrong cX4_firstWrong 3 (some .int), .fieldLink RX4 15 "DroopBoard$OrderText" "length" "I", .fieldLink RX4 9 "DroopBoard$OrderText" "codes" "[I", .methodLink RX4 23 yX4_next, .static yX4_next, .code yX4_next cX4_next 2 (some .int), .methodLink RX4 31 yX4_afterLetter, .static yX4_afterLetter, .code yX4_afterLetter cX4_afterLetter 1 (some .int), .methodLink RX4 34 yX4_between, .static yX4_between, .code yX4_between cX4_between 4 (some .int)] ++ wsX50 ++ wsX40)
def wsX5_switchFeeder : List Cond := .code yX5_switchFeeder cX5_switchFeeder 3 (some .boolean) :: ([.fieldLink RX5 10 "DroopBoard" "board" "LDroopBoard$Board;", .fieldLink RX5 119 "DroopBoard$Board" "feeders" "[LDroopBoard$Feeder;", .fieldLink RX5 128 "DroopBoard$Feeder" "on" "Z", .methodLink RX5 274 yX5_isFeeder, .static yX5_isFeeder, .initialized RX5, .code yX5_isFeeder cX5_isFeeder 1 (some .boolean)] ++ wsX50 ++ wsX00 ++ wsX20)
def wsX5_commandSet_r1 : List Cond := [Cond.fieldLink RX5 10 "DroopBoard" "board" "LDroopBoard$Board;", Cond.fieldLink RX5 44 "DroopBoard$Board" "diesels" "[LDroopBoard$Diesel;", Cond.fieldLink RX5 108 "DroopBoard$Diesel" "closed" "Z", Cond.methodLink RX5 75 yX1_canStart, Cond.instanceMethod yX1_canStart, Cond.selects RX1 yX1_canStart yX1_canStart, Cond.initialized RX1, Cond.code yX1_canStart cX1_canStart 1 (some .boolean), Cond.fieldLink RX1 19 "DroopBoard$Diesel" "runs" "Z", Cond.methodLink RX5 81 yX1_start, Cond.instanceMethod yX1_start, Cond.selects RX1 yX1_start yX1_start, Cond.code yX1_start cX1_start 1 none, Cond.methodLink RX1 41 yX1_beginAnew, Cond.instanceMethod yX1_beginAnew, Cond.selects RX1 yX1_beginAnew yX1_beginAnew, Cond.code yX1_beginAnew cX1_beginAnew 1 none, Cond.fieldLink RX1 26 "DroopBoard$Diesel" "phase" "I", Cond.fieldLink RX1 29 "DroopBoard$Diesel" "overloaded" "I", Cond.fieldLink RX1 32 "DroopBoard$Diesel" "driven" "I", Cond.methodLink RX5 88 yX1_canStop, Cond.instanceMethod yX1_canStop, Cond.selects RX1 yX1_canStop yX1_canStop, Cond.code yX1_canStop cX1_canStop 1 (some .boolean)]
def wsX5_commandSet_r2 : List Cond := [Cond.fieldLink RX1 23 "DroopBoard$Diesel" "closed" "Z", Cond.methodLink RX5 93 yX1_stop, Cond.instanceMethod yX1_stop, Cond.selects RX1 yX1_stop yX1_stop, Cond.code yX1_stop cX1_stop 1 none, Cond.methodLink RX5 96 yX0_whyNotClosed, Cond.instanceMethod yX0_whyNotClosed, Cond.selects RX0 yX0_whyNotClosed yX0_whyNotClosed, Cond.initialized RX0, Cond.code yX0_whyNotClosed cX0_whyNotClosed 3 (some .int), Cond.fieldLink RX0 11 "DroopBoard$Board" "diesels" "[LDroopBoard$Diesel;", Cond.fieldLink RX0 82 "DroopBoard$Diesel" "runs" "Z", Cond.fieldLink RX0 45 "DroopBoard$Diesel" "closed" "Z", Cond.fieldLink RX0 85 "DroopBoard$Diesel" "speed" "I", Cond.methodLink RX0 91 Lib.Math.abs.name, Cond.static Lib.Math.abs.name, Cond.initialized "java/lang/Math", Cond.code Lib.Math.abs.name Lib.Math.abs.code 1 (some .int), Cond.fieldLink RX0 23 "DroopBoard$Board" "settings" "[I", Cond.methodLink RX0 49 yX0_alive, Cond.instanceMethod yX0_alive, Cond.selects RX0 yX0_alive yX0_alive, Cond.code yX0_alive cX0_alive 2 (some .boolean), Cond.methodLink RX0 88 yX0_frequency]
def wsX5_commandSet_r3 : List Cond := [Cond.instanceMethod yX0_frequency, Cond.selects RX0 yX0_frequency yX0_frequency, Cond.code yX0_frequency cX0_frequency 6 (some .int), Cond.methodLink RX0 63 yX0_demand, Cond.instanceMethod yX0_demand, Cond.selects RX0 yX0_demand yX0_demand, Cond.code yX0_demand cX0_demand 3 (some .int), Cond.fieldLink RX0 19 "DroopBoard$Board" "feeders" "[LDroopBoard$Feeder;", Cond.fieldLink RX0 53 "DroopBoard$Feeder" "on" "Z", Cond.fieldLink RX0 56 "DroopBoard$Feeder" "load" "I", Cond.methodLink RX0 67 yX0_total, Cond.instanceMethod yX0_total, Cond.selects RX0 yX0_total yX0_total, Cond.code yX0_total cX0_total 4 (some .int), Cond.methodLink RX0 59 yX1_gives, Cond.instanceMethod yX1_gives, Cond.selects RX1 yX1_gives yX1_gives, Cond.code yX1_gives cX1_gives 2 (some .int), Cond.fieldLink RX1 7 "DroopBoard$Diesel" "droop" "I", Cond.fieldLink RX1 13 "DroopBoard$Diesel" "speed" "I", Cond.fieldLink RX1 16 "DroopBoard$Diesel" "rating" "I", Cond.methodLink RX0 94 yX1_lamps, Cond.instanceMethod yX1_lamps, Cond.selects RX1 yX1_lamps yX1_lamps]
def wsX5_commandSet_r4 : List Cond := [Cond.code yX1_lamps cX1_lamps 1 (some .int), Cond.methodLink RX1 44 Lib.Math.min.name, Cond.static Lib.Math.min.name, Cond.code Lib.Math.min.name Lib.Math.min.code 2 (some .int), Cond.methodLink RX5 102 yX1_closeBreaker, Cond.instanceMethod yX1_closeBreaker, Cond.selects RX1 yX1_closeBreaker yX1_closeBreaker, Cond.code yX1_closeBreaker cX1_closeBreaker 1 none, Cond.methodLink RX5 113 yX1_openBreaker, Cond.instanceMethod yX1_openBreaker, Cond.selects RX1 yX1_openBreaker yX1_openBreaker, Cond.code yX1_openBreaker cX1_openBreaker 1 none]
def wsX5_commandSet : List Cond := .code yX5_commandSet cX5_commandSet 4 (some .boolean) :: ((wsX5_commandSet_r1 ++ (wsX5_commandSet_r2 ++ (wsX5_commandSet_r3 ++ wsX5_commandSet_r4))) ++ wsX50 ++ wsX00 ++ wsX10 ++ wsX20)
def wsX5_carryOut_r1 : List Cond := [Cond.fieldLink RX5 32 "DroopBoard" "text" "LDroopBoard$OrderText;", Cond.fieldLink RX5 10 "DroopBoard" "board" "LDroopBoard$Board;", Cond.fieldLink RX5 44 "DroopBoard$Board" "diesels" "[LDroopBoard$Diesel;", Cond.fieldLink RX5 72 "DroopBoard$Diesel" "speed" "I", Cond.methodLink RX5 260 yX4_codeAt, Cond.instanceMethod yX4_codeAt, Cond.selects RX4 yX4_codeAt yX4_codeAt, Cond.initialized RX4, Cond.code yX4_codeAt cX4_codeAt 2 (some .int), Cond.fieldLink RX4 15 "DroopBoard$OrderText" "length" "I", Cond.fieldLink RX4 9 "DroopBoard$OrderText" "codes" "[I", Cond.methodLink RX5 283 yX4_number, Cond.instanceMethod yX4_number, Cond.selects RX4 yX4_number yX4_number, Cond.code yX4_number cX4_number 5 (some .int), Cond.methodLink RX4 27 yX4_codeAt, Cond.methodLink RX5 135 yX0_passTicks, Cond.instanceMethod yX0_passTicks, Cond.selects RX0 yX0_passTicks yX0_passTicks, Cond.initialized RX0, Cond.code yX0_passTicks cX0_passTicks 4 (some .int), Cond.methodLink RX0 97 yX0_tick, Cond.instanceMethod yX0_tick, Cond.selects RX0 yX0_tick yX0_tick]
def wsX5_carryOut_r2 : List Cond := [Cond.code yX0_tick cX0_tick 4 (some .int), Cond.fieldLink RX0 42 "DroopBoard$Board" "energy" "I", Cond.fieldLink RX0 11 "DroopBoard$Board" "diesels" "[LDroopBoard$Diesel;", Cond.fieldLink RX0 38 "DroopBoard$Board" "ticks" "I", Cond.methodLink RX0 88 yX0_frequency, Cond.instanceMethod yX0_frequency, Cond.selects RX0 yX0_frequency yX0_frequency, Cond.code yX0_frequency cX0_frequency 6 (some .int), Cond.methodLink RX0 49 yX0_alive, Cond.instanceMethod yX0_alive, Cond.selects RX0 yX0_alive yX0_alive, Cond.code yX0_alive cX0_alive 2 (some .boolean), Cond.fieldLink RX0 45 "DroopBoard$Diesel" "closed" "Z", Cond.methodLink RX0 63 yX0_demand, Cond.instanceMethod yX0_demand, Cond.selects RX0 yX0_demand yX0_demand, Cond.code yX0_demand cX0_demand 3 (some .int), Cond.fieldLink RX0 19 "DroopBoard$Board" "feeders" "[LDroopBoard$Feeder;", Cond.fieldLink RX0 53 "DroopBoard$Feeder" "on" "Z", Cond.fieldLink RX0 56 "DroopBoard$Feeder" "load" "I", Cond.methodLink RX0 67 yX0_total, Cond.instanceMethod yX0_total, Cond.selects RX0 yX0_total yX0_total, Cond.code yX0_total cX0_total 4 (some .int)]
def wsX5_carryOut_r3 : List Cond := [Cond.methodLink RX0 59 yX1_gives, Cond.instanceMethod yX1_gives, Cond.selects RX1 yX1_gives yX1_gives, Cond.initialized RX1, Cond.code yX1_gives cX1_gives 2 (some .int), Cond.fieldLink RX1 23 "DroopBoard$Diesel" "closed" "Z", Cond.fieldLink RX1 7 "DroopBoard$Diesel" "droop" "I", Cond.fieldLink RX1 13 "DroopBoard$Diesel" "speed" "I", Cond.fieldLink RX1 16 "DroopBoard$Diesel" "rating" "I", Cond.methodLink RX0 100 yX0_lack, Cond.instanceMethod yX0_lack, Cond.selects RX0 yX0_lack yX0_lack, Cond.code yX0_lack cX0_lack 2 (some .int), Cond.methodLink RX0 73 Lib.Math.max.name, Cond.static Lib.Math.max.name, Cond.initialized "java/lang/Math", Cond.code Lib.Math.max.name Lib.Math.max.code 2 (some .int), Cond.methodLink RX0 79 yX0_power, Cond.instanceMethod yX0_power, Cond.selects RX0 yX0_power yX0_power, Cond.code yX0_power cX0_power 4 (some .int), Cond.methodLink RX0 70 yX0_lowestClosed, Cond.instanceMethod yX0_lowestClosed, Cond.selects RX0 yX0_lowestClosed yX0_lowestClosed]
def wsX5_carryOut_r4 : List Cond := [Cond.code yX0_lowestClosed cX0_lowestClosed 2 (some .int), Cond.methodLink RX0 103 yX1_tick, Cond.instanceMethod yX1_tick, Cond.selects RX1 yX1_tick yX1_tick, Cond.code yX1_tick cX1_tick 3 none, Cond.fieldLink RX1 35 "DroopBoard$Diesel" "energy" "I", Cond.fieldLink RX1 29 "DroopBoard$Diesel" "overloaded" "I", Cond.fieldLink RX1 32 "DroopBoard$Diesel" "driven" "I", Cond.fieldLink RX1 19 "DroopBoard$Diesel" "runs" "Z", Cond.fieldLink RX1 26 "DroopBoard$Diesel" "phase" "I", Cond.methodLink RX1 50 yJ9_floorMod_7cf53, Cond.static yJ9_floorMod_7cf53, Cond.initialized RJ9, Cond.code yJ9_floorMod_7cf53 cJ9_floorMod_7cf53 3 (some .int), Cond.methodLink RX0 106 yX0_shed, Cond.instanceMethod yX0_shed, Cond.selects RX0 yX0_shed yX0_shed, Cond.code yX0_shed cX0_shed 2 none, Cond.fieldLink RX0 112 "DroopBoard$Feeder" "sheds" "I", Cond.methodLink RX0 109 yX0_trip, Cond.instanceMethod yX0_trip, Cond.selects RX0 yX0_trip yX0_trip, Cond.code yX0_trip cX0_trip 4 (some .int), Cond.fieldLink RX0 115 "DroopBoard$Diesel" "overloaded" "I"]
def wsX5_carryOut_r5 : List Cond := [Cond.fieldLink RX0 23 "DroopBoard$Board" "settings" "[I", Cond.fieldLink RX0 118 "DroopBoard$Diesel" "driven" "I", Cond.fieldLink RX0 124 "DroopBoard$Diesel" "trips" "I", Cond.methodLink RX0 121 yX1_openBreaker, Cond.instanceMethod yX1_openBreaker, Cond.selects RX1 yX1_openBreaker yX1_openBreaker, Cond.code yX1_openBreaker cX1_openBreaker 1 none, Cond.methodLink RX1 41 yX1_beginAnew, Cond.instanceMethod yX1_beginAnew, Cond.selects RX1 yX1_beginAnew yX1_beginAnew, Cond.code yX1_beginAnew cX1_beginAnew 1 none, Cond.methodLink RX5 286 yX5_switchFeeder, Cond.instanceMethod yX5_switchFeeder, Cond.selects RX5 yX5_switchFeeder yX5_switchFeeder, Cond.initialized RX5, Cond.code yX5_switchFeeder cX5_switchFeeder 3 (some .boolean), Cond.fieldLink RX5 119 "DroopBoard$Board" "feeders" "[LDroopBoard$Feeder;", Cond.fieldLink RX5 128 "DroopBoard$Feeder" "on" "Z", Cond.methodLink RX5 274 yX5_isFeeder, Cond.static yX5_isFeeder, Cond.code yX5_isFeeder cX5_isFeeder 1 (some .boolean), Cond.methodLink RX5 265 yX5_isSet, Cond.static yX5_isSet, Cond.code yX5_isSet cX5_isSet 1 (some .boolean)]
def wsX5_carryOut_r6 : List Cond := [Cond.methodLink RX5 290 yX5_commandSet, Cond.instanceMethod yX5_commandSet, Cond.selects RX5 yX5_commandSet yX5_commandSet, Cond.code yX5_commandSet cX5_commandSet 4 (some .boolean), Cond.fieldLink RX5 108 "DroopBoard$Diesel" "closed" "Z", Cond.methodLink RX5 75 yX1_canStart, Cond.instanceMethod yX1_canStart, Cond.selects RX1 yX1_canStart yX1_canStart, Cond.code yX1_canStart cX1_canStart 1 (some .boolean), Cond.methodLink RX5 81 yX1_start, Cond.instanceMethod yX1_start, Cond.selects RX1 yX1_start yX1_start, Cond.code yX1_start cX1_start 1 none, Cond.methodLink RX5 88 yX1_canStop, Cond.instanceMethod yX1_canStop, Cond.selects RX1 yX1_canStop yX1_canStop, Cond.code yX1_canStop cX1_canStop 1 (some .boolean), Cond.methodLink RX5 93 yX1_stop, Cond.instanceMethod yX1_stop, Cond.selects RX1 yX1_stop yX1_stop, Cond.code yX1_stop cX1_stop 1 none, Cond.methodLink RX5 96 yX0_whyNotClosed, Cond.instanceMethod yX0_whyNotClosed, Cond.selects RX0 yX0_whyNotClosed yX0_whyNotClosed]
def wsX5_carryOut_r7 : List Cond := [Cond.code yX0_whyNotClosed cX0_whyNotClosed 3 (some .int), Cond.fieldLink RX0 82 "DroopBoard$Diesel" "runs" "Z", Cond.fieldLink RX0 85 "DroopBoard$Diesel" "speed" "I", Cond.methodLink RX0 91 Lib.Math.abs.name, Cond.static Lib.Math.abs.name, Cond.code Lib.Math.abs.name Lib.Math.abs.code 1 (some .int), Cond.methodLink RX0 94 yX1_lamps, Cond.instanceMethod yX1_lamps, Cond.selects RX1 yX1_lamps yX1_lamps, Cond.code yX1_lamps cX1_lamps 1 (some .int), Cond.methodLink RX1 44 Lib.Math.min.name, Cond.static Lib.Math.min.name, Cond.code Lib.Math.min.name Lib.Math.min.code 2 (some .int), Cond.methodLink RX5 102 yX1_closeBreaker, Cond.instanceMethod yX1_closeBreaker, Cond.selects RX1 yX1_closeBreaker yX1_closeBreaker, Cond.code yX1_closeBreaker cX1_closeBreaker 1 none, Cond.methodLink RX5 113 yX1_openBreaker]
def wsX5_carryOut : List Cond := .code yX5_carryOut cX5_carryOut 5 (some .boolean) :: ((wsX5_carryOut_r1 ++ (wsX5_carryOut_r2 ++ (wsX5_carryOut_r3 ++ (wsX5_carryOut_r4 ++ (wsX5_carryOut_r5 ++ (wsX5_carryOut_r6 ++ wsX5_carryOut_r7)))))) ++ wsX50 ++ wsX00 ++ wsX10 ++ wsX40 ++ wsX20)
def wsX5_obey_r1 : List Cond := [Cond.classLink RX5 168 "java/lang/IllegalArgumentException", Cond.initialized "java/lang/IllegalArgumentException", Cond.fieldLink RX5 32 "DroopBoard" "text" "LDroopBoard$OrderText;", Cond.fieldLink RX5 25 "DroopBoard" "history" "LDroopBoard$History;", Cond.fieldLink RX5 10 "DroopBoard" "board" "LDroopBoard$Board;", Cond.fieldLink RX5 159 "DroopBoard$OrderText" "length" "I", Cond.methodLink RX5 165 yX4_isComplete, Cond.instanceMethod yX4_isComplete, Cond.selects RX4 yX4_isComplete yX4_isComplete, Cond.initialized RX4, Cond.code yX4_isComplete cX4_isComplete 3 (some .boolean), Cond.fieldLink RX4 15 "DroopBoard$OrderText" "length" "I", Cond.fieldLink RX4 9 "DroopBoard$OrderText" "codes" "[I", Cond.methodLink RX4 23 yX4_next, Cond.static yX4_next, Cond.code yX4_next cX4_next 2 (some .int), Cond.methodLink RX4 31 yX4_afterLetter, Cond.static yX4_afterLetter, Cond.code yX4_afterLetter cX4_afterLetter 1 (some .int), Cond.methodLink RX4 34 yX4_between, Cond.static yX4_between, Cond.code yX4_between cX4_between 4 (some .int), Cond.methodLink RX5 61 yX3_save, Cond.instanceMethod yX3_save]
def wsX5_obey_r2 : List Cond := [Cond.selects RX3 yX3_save yX3_save, Cond.initialized RX3, Cond.code yX3_save cX3_save 2 none, Cond.fieldLink RX3 18 "DroopBoard$History" "size" "I", Cond.fieldLink RX3 11 "DroopBoard$History" "states" "[LDroopBoard$Board;", Cond.methodLink RX3 22 yX3_dropOldest, Cond.instanceMethod yX3_dropOldest, Cond.selects RX3 yX3_dropOldest yX3_dropOldest, Cond.code yX3_dropOldest cX3_dropOldest 3 none, Cond.methodLink RX3 25 yX0_copyFrom, Cond.instanceMethod yX0_copyFrom, Cond.selects RX0 yX0_copyFrom yX0_copyFrom, Cond.initialized RX0, Cond.code yX0_copyFrom cX0_copyFrom 3 none, Cond.fieldLink RX0 11 "DroopBoard$Board" "diesels" "[LDroopBoard$Diesel;", Cond.fieldLink RX0 19 "DroopBoard$Board" "feeders" "[LDroopBoard$Feeder;", Cond.fieldLink RX0 23 "DroopBoard$Board" "settings" "[I", Cond.fieldLink RX0 38 "DroopBoard$Board" "ticks" "I", Cond.fieldLink RX0 42 "DroopBoard$Board" "energy" "I", Cond.methodLink RX0 31 yX1_copyFrom, Cond.instanceMethod yX1_copyFrom, Cond.selects RX1 yX1_copyFrom yX1_copyFrom, Cond.initialized RX1, Cond.code yX1_copyFrom cX1_copyFrom 2 none]
def wsX5_obey_r3 : List Cond := [Cond.fieldLink RX1 16 "DroopBoard$Diesel" "rating" "I", Cond.fieldLink RX1 7 "DroopBoard$Diesel" "droop" "I", Cond.fieldLink RX1 13 "DroopBoard$Diesel" "speed" "I", Cond.fieldLink RX1 19 "DroopBoard$Diesel" "runs" "Z", Cond.fieldLink RX1 23 "DroopBoard$Diesel" "closed" "Z", Cond.fieldLink RX1 26 "DroopBoard$Diesel" "phase" "I", Cond.fieldLink RX1 29 "DroopBoard$Diesel" "overloaded" "I", Cond.fieldLink RX1 32 "DroopBoard$Diesel" "driven" "I", Cond.fieldLink RX1 35 "DroopBoard$Diesel" "energy" "I", Cond.fieldLink RX1 38 "DroopBoard$Diesel" "trips" "I", Cond.methodLink RX0 35 yX2_copyFrom, Cond.instanceMethod yX2_copyFrom, Cond.selects RX2 yX2_copyFrom yX2_copyFrom, Cond.initialized RX2, Cond.code yX2_copyFrom cX2_copyFrom 2 none, Cond.fieldLink RX2 13 "DroopBoard$Feeder" "load" "I", Cond.fieldLink RX2 7 "DroopBoard$Feeder" "on" "Z", Cond.fieldLink RX2 17 "DroopBoard$Feeder" "sheds" "I", Cond.methodLink RX5 173 yX4_endOfPart, Cond.instanceMethod yX4_endOfPart, Cond.selects RX4 yX4_endOfPart yX4_endOfPart, Cond.code yX4_endOfPart cX4_endOfPart 3 (some .int), Cond.methodLink RX4 27 yX4_codeAt, Cond.instanceMethod yX4_codeAt]
def wsX5_obey_r4 : List Cond := [Cond.selects RX4 yX4_codeAt yX4_codeAt, Cond.code yX4_codeAt cX4_codeAt 2 (some .int), Cond.methodLink RX5 176 yX5_carryOut, Cond.instanceMethod yX5_carryOut, Cond.selects RX5 yX5_carryOut yX5_carryOut, Cond.initialized RX5, Cond.code yX5_carryOut cX5_carryOut 5 (some .boolean), Cond.fieldLink RX5 44 "DroopBoard$Board" "diesels" "[LDroopBoard$Diesel;", Cond.fieldLink RX5 72 "DroopBoard$Diesel" "speed" "I", Cond.methodLink RX5 260 yX4_codeAt, Cond.methodLink RX5 283 yX4_number, Cond.instanceMethod yX4_number, Cond.selects RX4 yX4_number yX4_number, Cond.code yX4_number cX4_number 5 (some .int), Cond.methodLink RX5 135 yX0_passTicks, Cond.instanceMethod yX0_passTicks, Cond.selects RX0 yX0_passTicks yX0_passTicks, Cond.code yX0_passTicks cX0_passTicks 4 (some .int), Cond.methodLink RX0 97 yX0_tick, Cond.instanceMethod yX0_tick, Cond.selects RX0 yX0_tick yX0_tick, Cond.code yX0_tick cX0_tick 4 (some .int), Cond.methodLink RX0 88 yX0_frequency, Cond.instanceMethod yX0_frequency]
def wsX5_obey_r5 : List Cond := [Cond.selects RX0 yX0_frequency yX0_frequency, Cond.code yX0_frequency cX0_frequency 6 (some .int), Cond.methodLink RX0 49 yX0_alive, Cond.instanceMethod yX0_alive, Cond.selects RX0 yX0_alive yX0_alive, Cond.code yX0_alive cX0_alive 2 (some .boolean), Cond.fieldLink RX0 45 "DroopBoard$Diesel" "closed" "Z", Cond.methodLink RX0 63 yX0_demand, Cond.instanceMethod yX0_demand, Cond.selects RX0 yX0_demand yX0_demand, Cond.code yX0_demand cX0_demand 3 (some .int), Cond.fieldLink RX0 53 "DroopBoard$Feeder" "on" "Z", Cond.fieldLink RX0 56 "DroopBoard$Feeder" "load" "I", Cond.methodLink RX0 67 yX0_total, Cond.instanceMethod yX0_total, Cond.selects RX0 yX0_total yX0_total, Cond.code yX0_total cX0_total 4 (some .int), Cond.methodLink RX0 59 yX1_gives, Cond.instanceMethod yX1_gives, Cond.selects RX1 yX1_gives yX1_gives, Cond.code yX1_gives cX1_gives 2 (some .int), Cond.methodLink RX0 100 yX0_lack, Cond.instanceMethod yX0_lack, Cond.selects RX0 yX0_lack yX0_lack]
def wsX5_obey_r6 : List Cond := [Cond.code yX0_lack cX0_lack 2 (some .int), Cond.methodLink RX0 73 Lib.Math.max.name, Cond.static Lib.Math.max.name, Cond.initialized "java/lang/Math", Cond.code Lib.Math.max.name Lib.Math.max.code 2 (some .int), Cond.methodLink RX0 79 yX0_power, Cond.instanceMethod yX0_power, Cond.selects RX0 yX0_power yX0_power, Cond.code yX0_power cX0_power 4 (some .int), Cond.methodLink RX0 70 yX0_lowestClosed, Cond.instanceMethod yX0_lowestClosed, Cond.selects RX0 yX0_lowestClosed yX0_lowestClosed, Cond.code yX0_lowestClosed cX0_lowestClosed 2 (some .int), Cond.methodLink RX0 103 yX1_tick, Cond.instanceMethod yX1_tick, Cond.selects RX1 yX1_tick yX1_tick, Cond.code yX1_tick cX1_tick 3 none, Cond.methodLink RX1 50 yJ9_floorMod_7cf53, Cond.static yJ9_floorMod_7cf53, Cond.initialized RJ9, Cond.code yJ9_floorMod_7cf53 cJ9_floorMod_7cf53 3 (some .int), Cond.methodLink RX0 106 yX0_shed, Cond.instanceMethod yX0_shed, Cond.selects RX0 yX0_shed yX0_shed]
def wsX5_obey_r7 : List Cond := [Cond.code yX0_shed cX0_shed 2 none, Cond.fieldLink RX0 112 "DroopBoard$Feeder" "sheds" "I", Cond.methodLink RX0 109 yX0_trip, Cond.instanceMethod yX0_trip, Cond.selects RX0 yX0_trip yX0_trip, Cond.code yX0_trip cX0_trip 4 (some .int), Cond.fieldLink RX0 115 "DroopBoard$Diesel" "overloaded" "I", Cond.fieldLink RX0 118 "DroopBoard$Diesel" "driven" "I", Cond.fieldLink RX0 124 "DroopBoard$Diesel" "trips" "I", Cond.methodLink RX0 121 yX1_openBreaker, Cond.instanceMethod yX1_openBreaker, Cond.selects RX1 yX1_openBreaker yX1_openBreaker, Cond.code yX1_openBreaker cX1_openBreaker 1 none, Cond.methodLink RX1 41 yX1_beginAnew, Cond.instanceMethod yX1_beginAnew, Cond.selects RX1 yX1_beginAnew yX1_beginAnew, Cond.code yX1_beginAnew cX1_beginAnew 1 none, Cond.methodLink RX5 286 yX5_switchFeeder, Cond.instanceMethod yX5_switchFeeder, Cond.selects RX5 yX5_switchFeeder yX5_switchFeeder, Cond.code yX5_switchFeeder cX5_switchFeeder 3 (some .boolean), Cond.fieldLink RX5 119 "DroopBoard$Board" "feeders" "[LDroopBoard$Feeder;", Cond.fieldLink RX5 128 "DroopBoard$Feeder" "on" "Z", Cond.methodLink RX5 274 yX5_isFeeder]
def wsX5_obey_r8 : List Cond := [Cond.static yX5_isFeeder, Cond.code yX5_isFeeder cX5_isFeeder 1 (some .boolean), Cond.methodLink RX5 265 yX5_isSet, Cond.static yX5_isSet, Cond.code yX5_isSet cX5_isSet 1 (some .boolean), Cond.methodLink RX5 290 yX5_commandSet, Cond.instanceMethod yX5_commandSet, Cond.selects RX5 yX5_commandSet yX5_commandSet, Cond.code yX5_commandSet cX5_commandSet 4 (some .boolean), Cond.fieldLink RX5 108 "DroopBoard$Diesel" "closed" "Z", Cond.methodLink RX5 75 yX1_canStart, Cond.instanceMethod yX1_canStart, Cond.selects RX1 yX1_canStart yX1_canStart, Cond.code yX1_canStart cX1_canStart 1 (some .boolean), Cond.methodLink RX5 81 yX1_start, Cond.instanceMethod yX1_start, Cond.selects RX1 yX1_start yX1_start, Cond.code yX1_start cX1_start 1 none, Cond.methodLink RX5 88 yX1_canStop, Cond.instanceMethod yX1_canStop, Cond.selects RX1 yX1_canStop yX1_canStop, Cond.code yX1_canStop cX1_canStop 1 (some .boolean), Cond.methodLink RX5 93 yX1_stop, Cond.instanceMethod yX1_stop]
def wsX5_obey_r9 : List Cond := [Cond.selects RX1 yX1_stop yX1_stop, Cond.code yX1_stop cX1_stop 1 none, Cond.methodLink RX5 96 yX0_whyNotClosed, Cond.instanceMethod yX0_whyNotClosed, Cond.selects RX0 yX0_whyNotClosed yX0_whyNotClosed, Cond.code yX0_whyNotClosed cX0_whyNotClosed 3 (some .int), Cond.fieldLink RX0 82 "DroopBoard$Diesel" "runs" "Z", Cond.fieldLink RX0 85 "DroopBoard$Diesel" "speed" "I", Cond.methodLink RX0 91 Lib.Math.abs.name, Cond.static Lib.Math.abs.name, Cond.code Lib.Math.abs.name Lib.Math.abs.code 1 (some .int), Cond.methodLink RX0 94 yX1_lamps, Cond.instanceMethod yX1_lamps, Cond.selects RX1 yX1_lamps yX1_lamps, Cond.code yX1_lamps cX1_lamps 1 (some .int), Cond.methodLink RX1 44 Lib.Math.min.name, Cond.static Lib.Math.min.name, Cond.code Lib.Math.min.name Lib.Math.min.code 2 (some .int), Cond.methodLink RX5 102 yX1_closeBreaker, Cond.instanceMethod yX1_closeBreaker, Cond.selects RX1 yX1_closeBreaker yX1_closeBreaker, Cond.code yX1_closeBreaker cX1_closeBreaker 1 none, Cond.methodLink RX5 113 yX1_openBreaker]
def wsX5_obey : List Cond := .code yX5_obey cX5_obey 5 (some .int) :: ((wsX5_obey_r1 ++ (wsX5_obey_r2 ++ (wsX5_obey_r3 ++ (wsX5_obey_r4 ++ (wsX5_obey_r5 ++ (wsX5_obey_r6 ++ (wsX5_obey_r7 ++ (wsX5_obey_r8 ++ wsX5_obey_r9)))))))) ++ wsX50 ++ wsX40 ++ wsX30 ++ wsX00 ++ wsX10 ++ wsX20 ++ (vx_atS RX5 172 "java/lang/IllegalArgumentException" ["java/lang/RuntimeException", "java/lang/Exception"]).filter goodWord)
def wsX5_keep_r1 : List Cond := [Cond.fieldLink RX5 19 "DroopBoard" "snapshot" "LDroopBoard$Board;", Cond.fieldLink RX5 10 "DroopBoard" "board" "LDroopBoard$Board;", Cond.fieldLink RX5 183 "DroopBoard" "hasSnapshot" "Z", Cond.fieldLink RX5 186 "DroopBoard$Board" "ticks" "I", Cond.methodLink RX5 180 yX0_copyFrom, Cond.instanceMethod yX0_copyFrom, Cond.selects RX0 yX0_copyFrom yX0_copyFrom, Cond.initialized RX0, Cond.code yX0_copyFrom cX0_copyFrom 3 none, Cond.fieldLink RX0 11 "DroopBoard$Board" "diesels" "[LDroopBoard$Diesel;", Cond.fieldLink RX0 19 "DroopBoard$Board" "feeders" "[LDroopBoard$Feeder;", Cond.fieldLink RX0 23 "DroopBoard$Board" "settings" "[I", Cond.fieldLink RX0 38 "DroopBoard$Board" "ticks" "I", Cond.fieldLink RX0 42 "DroopBoard$Board" "energy" "I", Cond.methodLink RX0 31 yX1_copyFrom, Cond.instanceMethod yX1_copyFrom, Cond.selects RX1 yX1_copyFrom yX1_copyFrom, Cond.initialized RX1, Cond.code yX1_copyFrom cX1_copyFrom 2 none, Cond.fieldLink RX1 16 "DroopBoard$Diesel" "rating" "I", Cond.fieldLink RX1 7 "DroopBoard$Diesel" "droop" "I", Cond.fieldLink RX1 13 "DroopBoard$Diesel" "speed" "I", Cond.fieldLink RX1 19 "DroopBoard$Diesel" "runs" "Z", Cond.fieldLink RX1 23 "DroopBoard$Diesel" "closed" "Z"]
def wsX5_keep_r2 : List Cond := [Cond.fieldLink RX1 26 "DroopBoard$Diesel" "phase" "I", Cond.fieldLink RX1 29 "DroopBoard$Diesel" "overloaded" "I", Cond.fieldLink RX1 32 "DroopBoard$Diesel" "driven" "I", Cond.fieldLink RX1 35 "DroopBoard$Diesel" "energy" "I", Cond.fieldLink RX1 38 "DroopBoard$Diesel" "trips" "I", Cond.methodLink RX0 35 yX2_copyFrom, Cond.instanceMethod yX2_copyFrom, Cond.selects RX2 yX2_copyFrom yX2_copyFrom, Cond.initialized RX2, Cond.code yX2_copyFrom cX2_copyFrom 2 none, Cond.fieldLink RX2 13 "DroopBoard$Feeder" "load" "I", Cond.fieldLink RX2 7 "DroopBoard$Feeder" "on" "Z", Cond.fieldLink RX2 17 "DroopBoard$Feeder" "sheds" "I"]
def wsX5_keep : List Cond := .code yX5_keep cX5_keep 1 (some .int) :: ((wsX5_keep_r1 ++ wsX5_keep_r2) ++ wsX50 ++ wsX00 ++ wsX10 ++ wsX20)
def wsX5_goBack_r1 : List Cond := [Cond.classLink RX5 54 "java/lang/IllegalStateException", Cond.initialized "java/lang/IllegalStateException", Cond.fieldLink RX5 183 "DroopBoard" "hasSnapshot" "Z", Cond.fieldLink RX5 25 "DroopBoard" "history" "LDroopBoard$History;", Cond.fieldLink RX5 10 "DroopBoard" "board" "LDroopBoard$Board;", Cond.fieldLink RX5 19 "DroopBoard" "snapshot" "LDroopBoard$Board;", Cond.fieldLink RX5 186 "DroopBoard$Board" "ticks" "I", Cond.methodLink RX5 61 yX3_save, Cond.instanceMethod yX3_save, Cond.selects RX3 yX3_save yX3_save, Cond.initialized RX3, Cond.code yX3_save cX3_save 2 none, Cond.fieldLink RX3 18 "DroopBoard$History" "size" "I", Cond.fieldLink RX3 11 "DroopBoard$History" "states" "[LDroopBoard$Board;", Cond.methodLink RX3 22 yX3_dropOldest, Cond.instanceMethod yX3_dropOldest, Cond.selects RX3 yX3_dropOldest yX3_dropOldest, Cond.code yX3_dropOldest cX3_dropOldest 3 none, Cond.methodLink RX3 25 yX0_copyFrom, Cond.instanceMethod yX0_copyFrom, Cond.selects RX0 yX0_copyFrom yX0_copyFrom, Cond.initialized RX0, Cond.code yX0_copyFrom cX0_copyFrom 3 none, Cond.fieldLink RX0 11 "DroopBoard$Board" "diesels" "[LDroopBoard$Diesel;"]
def wsX5_goBack_r2 : List Cond := [Cond.fieldLink RX0 19 "DroopBoard$Board" "feeders" "[LDroopBoard$Feeder;", Cond.fieldLink RX0 23 "DroopBoard$Board" "settings" "[I", Cond.fieldLink RX0 38 "DroopBoard$Board" "ticks" "I", Cond.fieldLink RX0 42 "DroopBoard$Board" "energy" "I", Cond.methodLink RX0 31 yX1_copyFrom, Cond.instanceMethod yX1_copyFrom, Cond.selects RX1 yX1_copyFrom yX1_copyFrom, Cond.initialized RX1, Cond.code yX1_copyFrom cX1_copyFrom 2 none, Cond.fieldLink RX1 16 "DroopBoard$Diesel" "rating" "I", Cond.fieldLink RX1 7 "DroopBoard$Diesel" "droop" "I", Cond.fieldLink RX1 13 "DroopBoard$Diesel" "speed" "I", Cond.fieldLink RX1 19 "DroopBoard$Diesel" "runs" "Z", Cond.fieldLink RX1 23 "DroopBoard$Diesel" "closed" "Z", Cond.fieldLink RX1 26 "DroopBoard$Diesel" "phase" "I", Cond.fieldLink RX1 29 "DroopBoard$Diesel" "overloaded" "I", Cond.fieldLink RX1 32 "DroopBoard$Diesel" "driven" "I", Cond.fieldLink RX1 35 "DroopBoard$Diesel" "energy" "I", Cond.fieldLink RX1 38 "DroopBoard$Diesel" "trips" "I", Cond.methodLink RX0 35 yX2_copyFrom, Cond.instanceMethod yX2_copyFrom, Cond.selects RX2 yX2_copyFrom yX2_copyFrom, Cond.initialized RX2, Cond.code yX2_copyFrom cX2_copyFrom 2 none]
def wsX5_goBack_r3 : List Cond := [Cond.fieldLink RX2 13 "DroopBoard$Feeder" "load" "I", Cond.fieldLink RX2 7 "DroopBoard$Feeder" "on" "Z", Cond.fieldLink RX2 17 "DroopBoard$Feeder" "sheds" "I", Cond.methodLink RX5 180 yX0_copyFrom]
def wsX5_goBack : List Cond := .code yX5_goBack cX5_goBack 1 (some .int) :: ((wsX5_goBack_r1 ++ (wsX5_goBack_r2 ++ wsX5_goBack_r3)) ++ wsX50 ++ wsX00 ++ wsX30 ++ wsX10 ++ wsX20 ++ (vx_atS RX5 58 "java/lang/IllegalStateException" ["java/lang/RuntimeException", "java/lang/Exception"]).filter goodWord)
def wsX5_undo_r1 : List Cond := [Cond.classLink RX5 54 "java/lang/IllegalStateException", Cond.initialized "java/lang/IllegalStateException", Cond.fieldLink RX5 25 "DroopBoard" "history" "LDroopBoard$History;", Cond.fieldLink RX5 191 "DroopBoard$History" "size" "I", Cond.fieldLink RX5 10 "DroopBoard" "board" "LDroopBoard$Board;", Cond.methodLink RX5 196 yX3_restore, Cond.instanceMethod yX3_restore, Cond.selects RX3 yX3_restore yX3_restore, Cond.initialized RX3, Cond.code yX3_restore cX3_restore 2 none, Cond.fieldLink RX3 18 "DroopBoard$History" "size" "I", Cond.fieldLink RX3 11 "DroopBoard$History" "states" "[LDroopBoard$Board;", Cond.methodLink RX3 25 yX0_copyFrom, Cond.instanceMethod yX0_copyFrom, Cond.selects RX0 yX0_copyFrom yX0_copyFrom, Cond.initialized RX0, Cond.code yX0_copyFrom cX0_copyFrom 3 none, Cond.fieldLink RX0 11 "DroopBoard$Board" "diesels" "[LDroopBoard$Diesel;", Cond.fieldLink RX0 19 "DroopBoard$Board" "feeders" "[LDroopBoard$Feeder;", Cond.fieldLink RX0 23 "DroopBoard$Board" "settings" "[I", Cond.fieldLink RX0 38 "DroopBoard$Board" "ticks" "I", Cond.fieldLink RX0 42 "DroopBoard$Board" "energy" "I", Cond.methodLink RX0 31 yX1_copyFrom, Cond.instanceMethod yX1_copyFrom]
def wsX5_undo_r2 : List Cond := [Cond.selects RX1 yX1_copyFrom yX1_copyFrom, Cond.initialized RX1, Cond.code yX1_copyFrom cX1_copyFrom 2 none, Cond.fieldLink RX1 16 "DroopBoard$Diesel" "rating" "I", Cond.fieldLink RX1 7 "DroopBoard$Diesel" "droop" "I", Cond.fieldLink RX1 13 "DroopBoard$Diesel" "speed" "I", Cond.fieldLink RX1 19 "DroopBoard$Diesel" "runs" "Z", Cond.fieldLink RX1 23 "DroopBoard$Diesel" "closed" "Z", Cond.fieldLink RX1 26 "DroopBoard$Diesel" "phase" "I", Cond.fieldLink RX1 29 "DroopBoard$Diesel" "overloaded" "I", Cond.fieldLink RX1 32 "DroopBoard$Diesel" "driven" "I", Cond.fieldLink RX1 35 "DroopBoard$Diesel" "energy" "I", Cond.fieldLink RX1 38 "DroopBoard$Diesel" "trips" "I", Cond.methodLink RX0 35 yX2_copyFrom, Cond.instanceMethod yX2_copyFrom, Cond.selects RX2 yX2_copyFrom yX2_copyFrom, Cond.initialized RX2, Cond.code yX2_copyFrom cX2_copyFrom 2 none, Cond.fieldLink RX2 13 "DroopBoard$Feeder" "load" "I", Cond.fieldLink RX2 7 "DroopBoard$Feeder" "on" "Z", Cond.fieldLink RX2 17 "DroopBoard$Feeder" "sheds" "I"]
def wsX5_undo : List Cond := .code yX5_undo cX5_undo 1 (some .int) :: ((wsX5_undo_r1 ++ wsX5_undo_r2) ++ wsX50 ++ wsX30 ++ wsX00 ++ wsX10 ++ wsX20 ++ (vx_atS RX5 58 "java/lang/IllegalStateException" ["java/lang/RuntimeException", "java/lang/Exception"]).filter goodWord)
def wsX5_tellOfSet_r1 : List Cond := [Cond.fieldLink RX5 10 "DroopBoard" "board" "LDroopBoard$Board;", Cond.fieldLink RX5 44 "DroopBoard$Board" "diesels" "[LDroopBoard$Diesel;", Cond.fieldLink RX5 65 "DroopBoard$Diesel" "rating" "I", Cond.fieldLink RX5 69 "DroopBoard$Diesel" "droop" "I", Cond.fieldLink RX5 72 "DroopBoard$Diesel" "speed" "I", Cond.fieldLink RX5 48 "DroopBoard$Diesel" "runs" "Z", Cond.fieldLink RX5 108 "DroopBoard$Diesel" "closed" "Z", Cond.fieldLink RX5 296 "DroopBoard$Diesel" "phase" "I", Cond.fieldLink RX5 302 "DroopBoard$Diesel" "overloaded" "I", Cond.fieldLink RX5 305 "DroopBoard$Diesel" "driven" "I", Cond.fieldLink RX5 308 "DroopBoard$Diesel" "energy" "I", Cond.fieldLink RX5 309 "DroopBoard$Diesel" "trips" "I", Cond.methodLink RX5 131 yX5_oneIf, Cond.static yX5_oneIf, Cond.initialized RX5, Cond.code yX5_oneIf cX5_oneIf 1 (some .int), Cond.methodLink RX5 105 yX0_frequency, Cond.instanceMethod yX0_frequency, Cond.selects RX0 yX0_frequency yX0_frequency, Cond.initialized RX0, Cond.code yX0_frequency cX0_frequency 6 (some .int), Cond.methodLink RX0 49 yX0_alive, Cond.instanceMethod yX0_alive, Cond.selects RX0 yX0_alive yX0_alive]
def wsX5_tellOfSet_r2 : List Cond := [Cond.code yX0_alive cX0_alive 2 (some .boolean), Cond.fieldLink RX0 11 "DroopBoard$Board" "diesels" "[LDroopBoard$Diesel;", Cond.fieldLink RX0 45 "DroopBoard$Diesel" "closed" "Z", Cond.methodLink RX0 63 yX0_demand, Cond.instanceMethod yX0_demand, Cond.selects RX0 yX0_demand yX0_demand, Cond.code yX0_demand cX0_demand 3 (some .int), Cond.fieldLink RX0 19 "DroopBoard$Board" "feeders" "[LDroopBoard$Feeder;", Cond.fieldLink RX0 53 "DroopBoard$Feeder" "on" "Z", Cond.fieldLink RX0 56 "DroopBoard$Feeder" "load" "I", Cond.methodLink RX0 67 yX0_total, Cond.instanceMethod yX0_total, Cond.selects RX0 yX0_total yX0_total, Cond.code yX0_total cX0_total 4 (some .int), Cond.methodLink RX0 59 yX1_gives, Cond.instanceMethod yX1_gives, Cond.selects RX1 yX1_gives yX1_gives, Cond.initialized RX1, Cond.code yX1_gives cX1_gives 2 (some .int), Cond.fieldLink RX1 23 "DroopBoard$Diesel" "closed" "Z", Cond.fieldLink RX1 7 "DroopBoard$Diesel" "droop" "I", Cond.fieldLink RX1 13 "DroopBoard$Diesel" "speed" "I", Cond.fieldLink RX1 16 "DroopBoard$Diesel" "rating" "I", Cond.methodLink RX5 293 yX0_power]
def wsX5_tellOfSet_r3 : List Cond := [Cond.instanceMethod yX0_power, Cond.selects RX0 yX0_power yX0_power, Cond.code yX0_power cX0_power 4 (some .int), Cond.methodLink RX0 73 Lib.Math.max.name, Cond.static Lib.Math.max.name, Cond.initialized "java/lang/Math", Cond.code Lib.Math.max.name Lib.Math.max.code 2 (some .int), Cond.methodLink RX0 70 yX0_lowestClosed, Cond.instanceMethod yX0_lowestClosed, Cond.selects RX0 yX0_lowestClosed yX0_lowestClosed, Cond.code yX0_lowestClosed cX0_lowestClosed 2 (some .int), Cond.methodLink RX5 299 yX1_lamps, Cond.instanceMethod yX1_lamps, Cond.selects RX1 yX1_lamps yX1_lamps, Cond.code yX1_lamps cX1_lamps 1 (some .int), Cond.fieldLink RX1 26 "DroopBoard$Diesel" "phase" "I", Cond.methodLink RX1 44 Lib.Math.min.name, Cond.static Lib.Math.min.name, Cond.code Lib.Math.min.name Lib.Math.min.code 2 (some .int), Cond.methodLink RX5 96 yX0_whyNotClosed, Cond.instanceMethod yX0_whyNotClosed, Cond.selects RX0 yX0_whyNotClosed yX0_whyNotClosed, Cond.code yX0_whyNotClosed cX0_whyNotClosed 3 (some .int), Cond.fieldLink RX0 82 "DroopBoard$Diesel" "runs" "Z"]
def wsX5_tellOfSet_r4 : List Cond := [Cond.fieldLink RX0 85 "DroopBoard$Diesel" "speed" "I", Cond.methodLink RX0 91 Lib.Math.abs.name, Cond.static Lib.Math.abs.name, Cond.code Lib.Math.abs.name Lib.Math.abs.code 1 (some .int), Cond.fieldLink RX0 23 "DroopBoard$Board" "settings" "[I", Cond.methodLink RX0 88 yX0_frequency, Cond.methodLink RX0 94 yX1_lamps]
def wsX5_tellOfSet : List Cond := .code yX5_tellOfSet cX5_tellOfSet 4 (some .int) :: ((wsX5_tellOfSet_r1 ++ (wsX5_tellOfSet_r2 ++ (wsX5_tellOfSet_r3 ++ wsX5_tellOfSet_r4))) ++ wsX50 ++ wsX00 ++ wsX10 ++ wsX20)
def wsX5_diesel_r1 : List Cond := [Cond.methodLink RX5 36 yX5_needSet, Cond.static yX5_needSet, Cond.initialized RX5, Cond.code yX5_needSet cX5_needSet 1 none, Cond.classLink RX5 269 "java/lang/IndexOutOfBoundsException", Cond.initialized "java/lang/IndexOutOfBoundsException", Cond.methodLink RX5 265 yX5_isSet, Cond.static yX5_isSet, Cond.code yX5_isSet cX5_isSet 1 (some .boolean), Cond.methodLink RX5 40 yX5_needRange, Cond.static yX5_needRange, Cond.code yX5_needRange cX5_needRange 3 none, Cond.classLink RX5 168 "java/lang/IllegalArgumentException", Cond.initialized "java/lang/IllegalArgumentException", Cond.methodLink RX5 199 yX5_tellOfSet, Cond.instanceMethod yX5_tellOfSet, Cond.selects RX5 yX5_tellOfSet yX5_tellOfSet, Cond.code yX5_tellOfSet cX5_tellOfSet 4 (some .int), Cond.fieldLink RX5 10 "DroopBoard" "board" "LDroopBoard$Board;", Cond.fieldLink RX5 44 "DroopBoard$Board" "diesels" "[LDroopBoard$Diesel;", Cond.fieldLink RX5 65 "DroopBoard$Diesel" "rating" "I", Cond.fieldLink RX5 69 "DroopBoard$Diesel" "droop" "I", Cond.fieldLink RX5 72 "DroopBoard$Diesel" "speed" "I", Cond.fieldLink RX5 48 "DroopBoard$Diesel" "runs" "Z"]
def wsX5_diesel_r2 : List Cond := [Cond.fieldLink RX5 108 "DroopBoard$Diesel" "closed" "Z", Cond.fieldLink RX5 296 "DroopBoard$Diesel" "phase" "I", Cond.fieldLink RX5 302 "DroopBoard$Diesel" "overloaded" "I", Cond.fieldLink RX5 305 "DroopBoard$Diesel" "driven" "I", Cond.fieldLink RX5 308 "DroopBoard$Diesel" "energy" "I", Cond.fieldLink RX5 309 "DroopBoard$Diesel" "trips" "I", Cond.methodLink RX5 131 yX5_oneIf, Cond.static yX5_oneIf, Cond.code yX5_oneIf cX5_oneIf 1 (some .int), Cond.methodLink RX5 105 yX0_frequency, Cond.instanceMethod yX0_frequency, Cond.selects RX0 yX0_frequency yX0_frequency, Cond.initialized RX0, Cond.code yX0_frequency cX0_frequency 6 (some .int), Cond.methodLink RX0 49 yX0_alive, Cond.instanceMethod yX0_alive, Cond.selects RX0 yX0_alive yX0_alive, Cond.code yX0_alive cX0_alive 2 (some .boolean), Cond.fieldLink RX0 11 "DroopBoard$Board" "diesels" "[LDroopBoard$Diesel;", Cond.fieldLink RX0 45 "DroopBoard$Diesel" "closed" "Z", Cond.methodLink RX0 63 yX0_demand, Cond.instanceMethod yX0_demand, Cond.selects RX0 yX0_demand yX0_demand, Cond.code yX0_demand cX0_demand 3 (some .int)]
def wsX5_diesel_r3 : List Cond := [Cond.fieldLink RX0 19 "DroopBoard$Board" "feeders" "[LDroopBoard$Feeder;", Cond.fieldLink RX0 53 "DroopBoard$Feeder" "on" "Z", Cond.fieldLink RX0 56 "DroopBoard$Feeder" "load" "I", Cond.methodLink RX0 67 yX0_total, Cond.instanceMethod yX0_total, Cond.selects RX0 yX0_total yX0_total, Cond.code yX0_total cX0_total 4 (some .int), Cond.methodLink RX0 59 yX1_gives, Cond.instanceMethod yX1_gives, Cond.selects RX1 yX1_gives yX1_gives, Cond.initialized RX1, Cond.code yX1_gives cX1_gives 2 (some .int), Cond.fieldLink RX1 23 "DroopBoard$Diesel" "closed" "Z", Cond.fieldLink RX1 7 "DroopBoard$Diesel" "droop" "I", Cond.fieldLink RX1 13 "DroopBoard$Diesel" "speed" "I", Cond.fieldLink RX1 16 "DroopBoard$Diesel" "rating" "I", Cond.methodLink RX5 293 yX0_power, Cond.instanceMethod yX0_power, Cond.selects RX0 yX0_power yX0_power, Cond.code yX0_power cX0_power 4 (some .int), Cond.methodLink RX0 73 Lib.Math.max.name, Cond.static Lib.Math.max.name, Cond.initialized "java/lang/Math", Cond.code Lib.Math.max.name Lib.Math.max.code 2 (some .int)]
def wsX5_diesel_r4 : List Cond := [Cond.methodLink RX0 70 yX0_lowestClosed, Cond.instanceMethod yX0_lowestClosed, Cond.selects RX0 yX0_lowestClosed yX0_lowestClosed, Cond.code yX0_lowestClosed cX0_lowestClosed 2 (some .int), Cond.methodLink RX5 299 yX1_lamps, Cond.instanceMethod yX1_lamps, Cond.selects RX1 yX1_lamps yX1_lamps, Cond.code yX1_lamps cX1_lamps 1 (some .int), Cond.fieldLink RX1 26 "DroopBoard$Diesel" "phase" "I", Cond.methodLink RX1 44 Lib.Math.min.name, Cond.static Lib.Math.min.name, Cond.code Lib.Math.min.name Lib.Math.min.code 2 (some .int), Cond.methodLink RX5 96 yX0_whyNotClosed, Cond.instanceMethod yX0_whyNotClosed, Cond.selects RX0 yX0_whyNotClosed yX0_whyNotClosed, Cond.code yX0_whyNotClosed cX0_whyNotClosed 3 (some .int), Cond.fieldLink RX0 82 "DroopBoard$Diesel" "runs" "Z", Cond.fieldLink RX0 85 "DroopBoard$Diesel" "speed" "I", Cond.methodLink RX0 91 Lib.Math.abs.name, Cond.static Lib.Math.abs.name, Cond.code Lib.Math.abs.name Lib.Math.abs.code 1 (some .int), Cond.fieldLink RX0 23 "DroopBoard$Board" "settings" "[I", Cond.methodLink RX0 88 yX0_frequency, Cond.methodLink RX0 94 yX1_lamps]
def wsX5_diesel : List Cond := .code yX5_diesel cX5_diesel 3 (some .int) :: ((wsX5_diesel_r1 ++ (wsX5_diesel_r2 ++ (wsX5_diesel_r3 ++ wsX5_diesel_r4))) ++ wsX50 ++ wsX00 ++ wsX10 ++ wsX20 ++ (vx_atS RX5 273 "java/lang/IndexOutOfBoundsException" ["java/lang/RuntimeException", "java/lang/Exception"]).filter goodWord ++ (vx_atS RX5 172 "java/lang/IllegalArgumentException" ["java/lang/RuntimeException", "java/lang/Exception"]).filter goodWord)
def wsX5_tellOfFeeder : List Cond := .code yX5_tellOfFeeder cX5_tellOfFeeder 3 (some .int) :: ([.fieldLink RX5 10 "DroopBoard" "board" "LDroopBoard$Board;", .fieldLink RX5 119 "DroopBoard$Board" "feeders" "[LDroopBoard$Feeder;", .fieldLink RX5 123 "DroopBoard$Feeder" "load" "I", .fieldLink RX5 128 "DroopBoard$Feeder" "on" "Z", .fieldLink RX5 312 "DroopBoard$Feeder" "sheds" "I", .methodLink RX5 131 yX5_oneIf, .static yX5_oneIf, .initialized RX5, .code yX5_oneIf cX5_oneIf 1 (some .int)] ++ wsX50 ++ wsX00 ++ wsX20)
def wsX5_line_r1 : List Cond := [Cond.methodLink RX5 116 yX5_needFeeder, Cond.static yX5_needFeeder, Cond.initialized RX5, Cond.code yX5_needFeeder cX5_needFeeder 1 none, Cond.classLink RX5 269 "java/lang/IndexOutOfBoundsException", Cond.initialized "java/lang/IndexOutOfBoundsException", Cond.methodLink RX5 274 yX5_isFeeder, Cond.static yX5_isFeeder, Cond.code yX5_isFeeder cX5_isFeeder 1 (some .boolean), Cond.methodLink RX5 40 yX5_needRange, Cond.static yX5_needRange, Cond.code yX5_needRange cX5_needRange 3 none, Cond.classLink RX5 168 "java/lang/IllegalArgumentException", Cond.initialized "java/lang/IllegalArgumentException", Cond.methodLink RX5 203 yX5_tellOfFeeder, Cond.instanceMethod yX5_tellOfFeeder, Cond.selects RX5 yX5_tellOfFeeder yX5_tellOfFeeder, Cond.code yX5_tellOfFeeder cX5_tellOfFeeder 3 (some .int), Cond.fieldLink RX5 10 "DroopBoard" "board" "LDroopBoard$Board;", Cond.fieldLink RX5 119 "DroopBoard$Board" "feeders" "[LDroopBoard$Feeder;", Cond.fieldLink RX5 123 "DroopBoard$Feeder" "load" "I", Cond.fieldLink RX5 128 "DroopBoard$Feeder" "on" "Z", Cond.fieldLink RX5 312 "DroopBoard$Feeder" "sheds" "I", Cond.methodLink RX5 131 yX5_oneIf]
def wsX5_line_r2 : List Cond := [Cond.static yX5_oneIf, Cond.code yX5_oneIf cX5_oneIf 1 (some .int)]
def wsX5_line : List Cond := .code yX5_line cX5_line 3 (some .int) :: ((wsX5_line_r1 ++ wsX5_line_r2) ++ wsX50 ++ wsX00 ++ wsX20 ++ (vx_atS RX5 273 "java/lang/IndexOutOfBoundsException" ["java/lang/RuntimeException", "java/lang/Exception"]).filter goodWord ++ (vx_atS RX5 172 "java/lang/IllegalArgumentException" ["java/lang/RuntimeException", "java/lang/Exception"]).filter goodWord)
def wsX5_tellCount_r1 : List Cond := [Cond.fieldLink RX5 10 "DroopBoard" "board" "LDroopBoard$Board;", Cond.fieldLink RX5 186 "DroopBoard$Board" "ticks" "I", Cond.fieldLink RX5 228 "DroopBoard$Board" "energy" "I", Cond.fieldLink RX5 25 "DroopBoard" "history" "LDroopBoard$History;", Cond.fieldLink RX5 191 "DroopBoard$History" "size" "I", Cond.methodLink RX5 315 yX0_frequencyDownwards, Cond.instanceMethod yX0_frequencyDownwards, Cond.selects RX0 yX0_frequencyDownwards yX0_frequencyDownwards, Cond.initialized RX0, Cond.code yX0_frequencyDownwards cX0_frequencyDownwards 3 (some .int), Cond.methodLink RX0 49 yX0_alive, Cond.instanceMethod yX0_alive, Cond.selects RX0 yX0_alive yX0_alive, Cond.code yX0_alive cX0_alive 2 (some .boolean), Cond.fieldLink RX0 11 "DroopBoard$Board" "diesels" "[LDroopBoard$Diesel;", Cond.fieldLink RX0 45 "DroopBoard$Diesel" "closed" "Z", Cond.methodLink RX0 63 yX0_demand, Cond.instanceMethod yX0_demand, Cond.selects RX0 yX0_demand yX0_demand, Cond.code yX0_demand cX0_demand 3 (some .int), Cond.fieldLink RX0 19 "DroopBoard$Board" "feeders" "[LDroopBoard$Feeder;", Cond.fieldLink RX0 53 "DroopBoard$Feeder" "on" "Z", Cond.fieldLink RX0 56 "DroopBoard$Feeder" "load" "I", Cond.methodLink RX0 67 yX0_total]
def wsX5_tellCount_r2 : List Cond := [Cond.instanceMethod yX0_total, Cond.selects RX0 yX0_total yX0_total, Cond.code yX0_total cX0_total 4 (some .int), Cond.methodLink RX0 59 yX1_gives, Cond.instanceMethod yX1_gives, Cond.selects RX1 yX1_gives yX1_gives, Cond.initialized RX1, Cond.code yX1_gives cX1_gives 2 (some .int), Cond.fieldLink RX1 23 "DroopBoard$Diesel" "closed" "Z", Cond.fieldLink RX1 7 "DroopBoard$Diesel" "droop" "I", Cond.fieldLink RX1 13 "DroopBoard$Diesel" "speed" "I", Cond.fieldLink RX1 16 "DroopBoard$Diesel" "rating" "I", Cond.methodLink RX5 105 yX0_frequency, Cond.instanceMethod yX0_frequency, Cond.selects RX0 yX0_frequency yX0_frequency, Cond.code yX0_frequency cX0_frequency 6 (some .int), Cond.methodLink RX5 225 yX0_demand, Cond.methodLink RX5 318 yX0_powers, Cond.instanceMethod yX0_powers, Cond.selects RX0 yX0_powers yX0_powers, Cond.code yX0_powers cX0_powers 4 (some .int), Cond.methodLink RX0 79 yX0_power, Cond.instanceMethod yX0_power, Cond.selects RX0 yX0_power yX0_power]
def wsX5_tellCount_r3 : List Cond := [Cond.code yX0_power cX0_power 4 (some .int), Cond.methodLink RX0 73 Lib.Math.max.name, Cond.static Lib.Math.max.name, Cond.initialized "java/lang/Math", Cond.code Lib.Math.max.name Lib.Math.max.code 2 (some .int), Cond.methodLink RX0 70 yX0_lowestClosed, Cond.instanceMethod yX0_lowestClosed, Cond.selects RX0 yX0_lowestClosed yX0_lowestClosed, Cond.code yX0_lowestClosed cX0_lowestClosed 2 (some .int), Cond.methodLink RX5 321 yX0_lack, Cond.instanceMethod yX0_lack, Cond.selects RX0 yX0_lack yX0_lack, Cond.code yX0_lack cX0_lack 2 (some .int), Cond.methodLink RX5 84 yX0_running, Cond.instanceMethod yX0_running, Cond.selects RX0 yX0_running yX0_running, Cond.code yX0_running cX0_running 3 (some .int), Cond.fieldLink RX0 82 "DroopBoard$Diesel" "runs" "Z", Cond.static yX5_oneIf, Cond.initialized RX5, Cond.code yX5_oneIf cX5_oneIf 1 (some .int), Cond.methodLink RX5 324 yX0_closedBreakers, Cond.instanceMethod yX0_closedBreakers, Cond.selects RX0 yX0_closedBreakers yX0_closedBreakers]
def wsX5_tellCount_r4 : List Cond := [Cond.code yX0_closedBreakers cX0_closedBreakers 3 (some .int), Cond.methodLink RX5 327 yX0_trips, Cond.instanceMethod yX0_trips, Cond.selects RX0 yX0_trips yX0_trips, Cond.code yX0_trips cX0_trips 3 (some .int), Cond.fieldLink RX0 124 "DroopBoard$Diesel" "trips" "I", Cond.methodLink RX5 329 yX0_sheds, Cond.instanceMethod yX0_sheds, Cond.selects RX0 yX0_sheds yX0_sheds, Cond.code yX0_sheds cX0_sheds 3 (some .int), Cond.fieldLink RX0 112 "DroopBoard$Feeder" "sheds" "I"]
def wsX5_tellCount : List Cond := .code yX5_tellCount cX5_tellCount 2 (some .int) :: ((wsX5_tellCount_r1 ++ (wsX5_tellCount_r2 ++ (wsX5_tellCount_r3 ++ wsX5_tellCount_r4))) ++ wsX50 ++ wsX00 ++ wsX30 ++ wsX10 ++ wsX20)
def wsX5_count_r1 : List Cond := [Cond.methodLink RX5 40 yX5_needRange, Cond.static yX5_needRange, Cond.initialized RX5, Cond.code yX5_needRange cX5_needRange 3 none, Cond.classLink RX5 168 "java/lang/IllegalArgumentException", Cond.initialized "java/lang/IllegalArgumentException", Cond.methodLink RX5 206 yX5_tellCount, Cond.instanceMethod yX5_tellCount, Cond.selects RX5 yX5_tellCount yX5_tellCount, Cond.code yX5_tellCount cX5_tellCount 2 (some .int), Cond.fieldLink RX5 10 "DroopBoard" "board" "LDroopBoard$Board;", Cond.fieldLink RX5 186 "DroopBoard$Board" "ticks" "I", Cond.fieldLink RX5 228 "DroopBoard$Board" "energy" "I", Cond.fieldLink RX5 25 "DroopBoard" "history" "LDroopBoard$History;", Cond.fieldLink RX5 191 "DroopBoard$History" "size" "I", Cond.methodLink RX5 315 yX0_frequencyDownwards, Cond.instanceMethod yX0_frequencyDownwards, Cond.selects RX0 yX0_frequencyDownwards yX0_frequencyDownwards, Cond.initialized RX0, Cond.code yX0_frequencyDownwards cX0_frequencyDownwards 3 (some .int), Cond.methodLink RX0 49 yX0_alive, Cond.instanceMethod yX0_alive, Cond.selects RX0 yX0_alive yX0_alive, Cond.code yX0_alive cX0_alive 2 (some .boolean)]
def wsX5_count_r2 : List Cond := [Cond.fieldLink RX0 11 "DroopBoard$Board" "diesels" "[LDroopBoard$Diesel;", Cond.fieldLink RX0 45 "DroopBoard$Diesel" "closed" "Z", Cond.methodLink RX0 63 yX0_demand, Cond.instanceMethod yX0_demand, Cond.selects RX0 yX0_demand yX0_demand, Cond.code yX0_demand cX0_demand 3 (some .int), Cond.fieldLink RX0 19 "DroopBoard$Board" "feeders" "[LDroopBoard$Feeder;", Cond.fieldLink RX0 53 "DroopBoard$Feeder" "on" "Z", Cond.fieldLink RX0 56 "DroopBoard$Feeder" "load" "I", Cond.methodLink RX0 67 yX0_total, Cond.instanceMethod yX0_total, Cond.selects RX0 yX0_total yX0_total, Cond.code yX0_total cX0_total 4 (some .int), Cond.methodLink RX0 59 yX1_gives, Cond.instanceMethod yX1_gives, Cond.selects RX1 yX1_gives yX1_gives, Cond.initialized RX1, Cond.code yX1_gives cX1_gives 2 (some .int), Cond.fieldLink RX1 23 "DroopBoard$Diesel" "closed" "Z", Cond.fieldLink RX1 7 "DroopBoard$Diesel" "droop" "I", Cond.fieldLink RX1 13 "DroopBoard$Diesel" "speed" "I", Cond.fieldLink RX1 16 "DroopBoard$Diesel" "rating" "I", Cond.methodLink RX5 105 yX0_frequency, Cond.instanceMethod yX0_frequency]
def wsX5_count_r3 : List Cond := [Cond.selects RX0 yX0_frequency yX0_frequency, Cond.code yX0_frequency cX0_frequency 6 (some .int), Cond.methodLink RX5 225 yX0_demand, Cond.methodLink RX5 318 yX0_powers, Cond.instanceMethod yX0_powers, Cond.selects RX0 yX0_powers yX0_powers, Cond.code yX0_powers cX0_powers 4 (some .int), Cond.methodLink RX0 79 yX0_power, Cond.instanceMethod yX0_power, Cond.selects RX0 yX0_power yX0_power, Cond.code yX0_power cX0_power 4 (some .int), Cond.methodLink RX0 73 Lib.Math.max.name, Cond.static Lib.Math.max.name, Cond.initialized "java/lang/Math", Cond.code Lib.Math.max.name Lib.Math.max.code 2 (some .int), Cond.methodLink RX0 70 yX0_lowestClosed, Cond.instanceMethod yX0_lowestClosed, Cond.selects RX0 yX0_lowestClosed yX0_lowestClosed, Cond.code yX0_lowestClosed cX0_lowestClosed 2 (some .int), Cond.methodLink RX5 321 yX0_lack, Cond.instanceMethod yX0_lack, Cond.selects RX0 yX0_lack yX0_lack, Cond.code yX0_lack cX0_lack 2 (some .int), Cond.methodLink RX5 84 yX0_running]
def wsX5_count_r4 : List Cond := [Cond.instanceMethod yX0_running, Cond.selects RX0 yX0_running yX0_running, Cond.code yX0_running cX0_running 3 (some .int), Cond.fieldLink RX0 82 "DroopBoard$Diesel" "runs" "Z", Cond.static yX5_oneIf, Cond.code yX5_oneIf cX5_oneIf 1 (some .int), Cond.methodLink RX5 324 yX0_closedBreakers, Cond.instanceMethod yX0_closedBreakers, Cond.selects RX0 yX0_closedBreakers yX0_closedBreakers, Cond.code yX0_closedBreakers cX0_closedBreakers 3 (some .int), Cond.methodLink RX5 327 yX0_trips, Cond.instanceMethod yX0_trips, Cond.selects RX0 yX0_trips yX0_trips, Cond.code yX0_trips cX0_trips 3 (some .int), Cond.fieldLink RX0 124 "DroopBoard$Diesel" "trips" "I", Cond.methodLink RX5 329 yX0_sheds, Cond.instanceMethod yX0_sheds, Cond.selects RX0 yX0_sheds yX0_sheds, Cond.code yX0_sheds cX0_sheds 3 (some .int), Cond.fieldLink RX0 112 "DroopBoard$Feeder" "sheds" "I"]
def wsX5_count : List Cond := .code yX5_count cX5_count 2 (some .int) :: ((wsX5_count_r1 ++ (wsX5_count_r2 ++ (wsX5_count_r3 ++ wsX5_count_r4))) ++ wsX50 ++ wsX00 ++ wsX30 ++ wsX10 ++ wsX20 ++ (vx_atS RX5 172 "java/lang/IllegalArgumentException" ["java/lang/RuntimeException", "java/lang/Exception"]).filter goodWord)
def wsX5_setting : List Cond := .code yX5_setting cX5_setting 2 (some .int) :: ([.fieldLink RX5 10 "DroopBoard" "board" "LDroopBoard$Board;", .fieldLink RX5 148 "DroopBoard$Board" "settings" "[I", .methodLink RX5 138 yX5_needSetting, .static yX5_needSetting, .initialized RX5, .code yX5_needSetting cX5_needSetting 1 none, .classLink RX5 269 "java/lang/IndexOutOfBoundsException", .initialized "java/lang/IndexOutOfBoundsException"] ++ wsX50 ++ wsX00 ++ (vx_atS RX5 273 "java/lang/IndexOutOfBoundsException" ["java/lang/RuntimeException", "java/lang/Exception"]).filter goodWord)
def wsX5_tellIfSpeed_r1 : List Cond := [Cond.fieldLink RX5 16 "DroopBoard" "trial" "LDroopBoard$Board;", Cond.fieldLink RX5 10 "DroopBoard" "board" "LDroopBoard$Board;", Cond.fieldLink RX5 44 "DroopBoard$Board" "diesels" "[LDroopBoard$Diesel;", Cond.fieldLink RX5 72 "DroopBoard$Diesel" "speed" "I", Cond.methodLink RX5 180 yX0_copyFrom, Cond.instanceMethod yX0_copyFrom, Cond.selects RX0 yX0_copyFrom yX0_copyFrom, Cond.initialized RX0, Cond.code yX0_copyFrom cX0_copyFrom 3 none, Cond.fieldLink RX0 11 "DroopBoard$Board" "diesels" "[LDroopBoard$Diesel;", Cond.fieldLink RX0 19 "DroopBoard$Board" "feeders" "[LDroopBoard$Feeder;", Cond.fieldLink RX0 23 "DroopBoard$Board" "settings" "[I", Cond.fieldLink RX0 38 "DroopBoard$Board" "ticks" "I", Cond.fieldLink RX0 42 "DroopBoard$Board" "energy" "I", Cond.methodLink RX0 31 yX1_copyFrom, Cond.instanceMethod yX1_copyFrom, Cond.selects RX1 yX1_copyFrom yX1_copyFrom, Cond.initialized RX1, Cond.code yX1_copyFrom cX1_copyFrom 2 none, Cond.fieldLink RX1 16 "DroopBoard$Diesel" "rating" "I", Cond.fieldLink RX1 7 "DroopBoard$Diesel" "droop" "I", Cond.fieldLink RX1 13 "DroopBoard$Diesel" "speed" "I", Cond.fieldLink RX1 19 "DroopBoard$Diesel" "runs" "Z", Cond.fieldLink RX1 23 "DroopBoard$Diesel" "closed" "Z"]
def wsX5_tellIfSpeed_r2 : List Cond := [Cond.fieldLink RX1 26 "DroopBoard$Diesel" "phase" "I", Cond.fieldLink RX1 29 "DroopBoard$Diesel" "overloaded" "I", Cond.fieldLink RX1 32 "DroopBoard$Diesel" "driven" "I", Cond.fieldLink RX1 35 "DroopBoard$Diesel" "energy" "I", Cond.fieldLink RX1 38 "DroopBoard$Diesel" "trips" "I", Cond.methodLink RX0 35 yX2_copyFrom, Cond.instanceMethod yX2_copyFrom, Cond.selects RX2 yX2_copyFrom yX2_copyFrom, Cond.initialized RX2, Cond.code yX2_copyFrom cX2_copyFrom 2 none, Cond.fieldLink RX2 13 "DroopBoard$Feeder" "load" "I", Cond.fieldLink RX2 7 "DroopBoard$Feeder" "on" "Z", Cond.fieldLink RX2 17 "DroopBoard$Feeder" "sheds" "I", Cond.methodLink RX5 105 yX0_frequency, Cond.instanceMethod yX0_frequency, Cond.selects RX0 yX0_frequency yX0_frequency, Cond.code yX0_frequency cX0_frequency 6 (some .int), Cond.methodLink RX0 49 yX0_alive, Cond.instanceMethod yX0_alive, Cond.selects RX0 yX0_alive yX0_alive, Cond.code yX0_alive cX0_alive 2 (some .boolean), Cond.fieldLink RX0 45 "DroopBoard$Diesel" "closed" "Z", Cond.methodLink RX0 63 yX0_demand, Cond.instanceMethod yX0_demand]
def wsX5_tellIfSpeed_r3 : List Cond := [Cond.selects RX0 yX0_demand yX0_demand, Cond.code yX0_demand cX0_demand 3 (some .int), Cond.fieldLink RX0 53 "DroopBoard$Feeder" "on" "Z", Cond.fieldLink RX0 56 "DroopBoard$Feeder" "load" "I", Cond.methodLink RX0 67 yX0_total, Cond.instanceMethod yX0_total, Cond.selects RX0 yX0_total yX0_total, Cond.code yX0_total cX0_total 4 (some .int), Cond.methodLink RX0 59 yX1_gives, Cond.instanceMethod yX1_gives, Cond.selects RX1 yX1_gives yX1_gives, Cond.code yX1_gives cX1_gives 2 (some .int), Cond.methodLink RX5 293 yX0_power, Cond.instanceMethod yX0_power, Cond.selects RX0 yX0_power yX0_power, Cond.code yX0_power cX0_power 4 (some .int), Cond.methodLink RX0 73 Lib.Math.max.name, Cond.static Lib.Math.max.name, Cond.initialized "java/lang/Math", Cond.code Lib.Math.max.name Lib.Math.max.code 2 (some .int), Cond.methodLink RX0 70 yX0_lowestClosed, Cond.instanceMethod yX0_lowestClosed, Cond.selects RX0 yX0_lowestClosed yX0_lowestClosed, Cond.code yX0_lowestClosed cX0_lowestClosed 2 (some .int)]
def wsX5_tellIfSpeed_r4 : List Cond := [Cond.methodLink RX5 321 yX0_lack, Cond.instanceMethod yX0_lack, Cond.selects RX0 yX0_lack yX0_lack, Cond.code yX0_lack cX0_lack 2 (some .int)]
def wsX5_tellIfSpeed : List Cond := .code yX5_tellIfSpeed cX5_tellIfSpeed 5 (some .int) :: ((wsX5_tellIfSpeed_r1 ++ (wsX5_tellIfSpeed_r2 ++ (wsX5_tellIfSpeed_r3 ++ wsX5_tellIfSpeed_r4))) ++ wsX50 ++ wsX00 ++ wsX10 ++ wsX20)
def wsX5_ifSpeed_r1 : List Cond := [Cond.methodLink RX5 36 yX5_needSet, Cond.static yX5_needSet, Cond.initialized RX5, Cond.code yX5_needSet cX5_needSet 1 none, Cond.classLink RX5 269 "java/lang/IndexOutOfBoundsException", Cond.initialized "java/lang/IndexOutOfBoundsException", Cond.methodLink RX5 265 yX5_isSet, Cond.static yX5_isSet, Cond.code yX5_isSet cX5_isSet 1 (some .boolean), Cond.methodLink RX5 40 yX5_needRange, Cond.static yX5_needRange, Cond.code yX5_needRange cX5_needRange 3 none, Cond.classLink RX5 168 "java/lang/IllegalArgumentException", Cond.initialized "java/lang/IllegalArgumentException", Cond.methodLink RX5 209 yX5_tellIfSpeed, Cond.instanceMethod yX5_tellIfSpeed, Cond.selects RX5 yX5_tellIfSpeed yX5_tellIfSpeed, Cond.code yX5_tellIfSpeed cX5_tellIfSpeed 5 (some .int), Cond.fieldLink RX5 16 "DroopBoard" "trial" "LDroopBoard$Board;", Cond.fieldLink RX5 10 "DroopBoard" "board" "LDroopBoard$Board;", Cond.fieldLink RX5 44 "DroopBoard$Board" "diesels" "[LDroopBoard$Diesel;", Cond.fieldLink RX5 72 "DroopBoard$Diesel" "speed" "I", Cond.methodLink RX5 180 yX0_copyFrom, Cond.instanceMethod yX0_copyFrom]
def wsX5_ifSpeed_r2 : List Cond := [Cond.selects RX0 yX0_copyFrom yX0_copyFrom, Cond.initialized RX0, Cond.code yX0_copyFrom cX0_copyFrom 3 none, Cond.fieldLink RX0 11 "DroopBoard$Board" "diesels" "[LDroopBoard$Diesel;", Cond.fieldLink RX0 19 "DroopBoard$Board" "feeders" "[LDroopBoard$Feeder;", Cond.fieldLink RX0 23 "DroopBoard$Board" "settings" "[I", Cond.fieldLink RX0 38 "DroopBoard$Board" "ticks" "I", Cond.fieldLink RX0 42 "DroopBoard$Board" "energy" "I", Cond.methodLink RX0 31 yX1_copyFrom, Cond.instanceMethod yX1_copyFrom, Cond.selects RX1 yX1_copyFrom yX1_copyFrom, Cond.initialized RX1, Cond.code yX1_copyFrom cX1_copyFrom 2 none, Cond.fieldLink RX1 16 "DroopBoard$Diesel" "rating" "I", Cond.fieldLink RX1 7 "DroopBoard$Diesel" "droop" "I", Cond.fieldLink RX1 13 "DroopBoard$Diesel" "speed" "I", Cond.fieldLink RX1 19 "DroopBoard$Diesel" "runs" "Z", Cond.fieldLink RX1 23 "DroopBoard$Diesel" "closed" "Z", Cond.fieldLink RX1 26 "DroopBoard$Diesel" "phase" "I", Cond.fieldLink RX1 29 "DroopBoard$Diesel" "overloaded" "I", Cond.fieldLink RX1 32 "DroopBoard$Diesel" "driven" "I", Cond.fieldLink RX1 35 "DroopBoard$Diesel" "energy" "I", Cond.fieldLink RX1 38 "DroopBoard$Diesel" "trips" "I", Cond.methodLink RX0 35 yX2_copyFrom]
def wsX5_ifSpeed_r3 : List Cond := [Cond.instanceMethod yX2_copyFrom, Cond.selects RX2 yX2_copyFrom yX2_copyFrom, Cond.initialized RX2, Cond.code yX2_copyFrom cX2_copyFrom 2 none, Cond.fieldLink RX2 13 "DroopBoard$Feeder" "load" "I", Cond.fieldLink RX2 7 "DroopBoard$Feeder" "on" "Z", Cond.fieldLink RX2 17 "DroopBoard$Feeder" "sheds" "I", Cond.methodLink RX5 105 yX0_frequency, Cond.instanceMethod yX0_frequency, Cond.selects RX0 yX0_frequency yX0_frequency, Cond.code yX0_frequency cX0_frequency 6 (some .int), Cond.methodLink RX0 49 yX0_alive, Cond.instanceMethod yX0_alive, Cond.selects RX0 yX0_alive yX0_alive, Cond.code yX0_alive cX0_alive 2 (some .boolean), Cond.fieldLink RX0 45 "DroopBoard$Diesel" "closed" "Z", Cond.methodLink RX0 63 yX0_demand, Cond.instanceMethod yX0_demand, Cond.selects RX0 yX0_demand yX0_demand, Cond.code yX0_demand cX0_demand 3 (some .int), Cond.fieldLink RX0 53 "DroopBoard$Feeder" "on" "Z", Cond.fieldLink RX0 56 "DroopBoard$Feeder" "load" "I", Cond.methodLink RX0 67 yX0_total, Cond.instanceMethod yX0_total]
def wsX5_ifSpeed_r4 : List Cond := [Cond.selects RX0 yX0_total yX0_total, Cond.code yX0_total cX0_total 4 (some .int), Cond.methodLink RX0 59 yX1_gives, Cond.instanceMethod yX1_gives, Cond.selects RX1 yX1_gives yX1_gives, Cond.code yX1_gives cX1_gives 2 (some .int), Cond.methodLink RX5 293 yX0_power, Cond.instanceMethod yX0_power, Cond.selects RX0 yX0_power yX0_power, Cond.code yX0_power cX0_power 4 (some .int), Cond.methodLink RX0 73 Lib.Math.max.name, Cond.static Lib.Math.max.name, Cond.initialized "java/lang/Math", Cond.code Lib.Math.max.name Lib.Math.max.code 2 (some .int), Cond.methodLink RX0 70 yX0_lowestClosed, Cond.instanceMethod yX0_lowestClosed, Cond.selects RX0 yX0_lowestClosed yX0_lowestClosed, Cond.code yX0_lowestClosed cX0_lowestClosed 2 (some .int), Cond.methodLink RX5 321 yX0_lack, Cond.instanceMethod yX0_lack, Cond.selects RX0 yX0_lack yX0_lack, Cond.code yX0_lack cX0_lack 2 (some .int)]
def wsX5_ifSpeed : List Cond := .code yX5_ifSpeed cX5_ifSpeed 4 (some .int) :: ((wsX5_ifSpeed_r1 ++ (wsX5_ifSpeed_r2 ++ (wsX5_ifSpeed_r3 ++ wsX5_ifSpeed_r4))) ++ wsX50 ++ wsX00 ++ wsX10 ++ wsX20 ++ (vx_atS RX5 273 "java/lang/IndexOutOfBoundsException" ["java/lang/RuntimeException", "java/lang/Exception"]).filter goodWord ++ (vx_atS RX5 172 "java/lang/IllegalArgumentException" ["java/lang/RuntimeException", "java/lang/Exception"]).filter goodWord)
def wsX5_ticksUntilClosing_r1 : List Cond := [Cond.fieldLink RX5 10 "DroopBoard" "board" "LDroopBoard$Board;", Cond.fieldLink RX5 44 "DroopBoard$Board" "diesels" "[LDroopBoard$Diesel;", Cond.fieldLink RX5 48 "DroopBoard$Diesel" "runs" "Z", Cond.fieldLink RX5 16 "DroopBoard" "trial" "LDroopBoard$Board;", Cond.methodLink RX5 180 yX0_copyFrom, Cond.instanceMethod yX0_copyFrom, Cond.selects RX0 yX0_copyFrom yX0_copyFrom, Cond.initialized RX0, Cond.code yX0_copyFrom cX0_copyFrom 3 none, Cond.fieldLink RX0 11 "DroopBoard$Board" "diesels" "[LDroopBoard$Diesel;", Cond.fieldLink RX0 19 "DroopBoard$Board" "feeders" "[LDroopBoard$Feeder;", Cond.fieldLink RX0 23 "DroopBoard$Board" "settings" "[I", Cond.fieldLink RX0 38 "DroopBoard$Board" "ticks" "I", Cond.fieldLink RX0 42 "DroopBoard$Board" "energy" "I", Cond.methodLink RX0 31 yX1_copyFrom, Cond.instanceMethod yX1_copyFrom, Cond.selects RX1 yX1_copyFrom yX1_copyFrom, Cond.initialized RX1, Cond.code yX1_copyFrom cX1_copyFrom 2 none, Cond.fieldLink RX1 16 "DroopBoard$Diesel" "rating" "I", Cond.fieldLink RX1 7 "DroopBoard$Diesel" "droop" "I", Cond.fieldLink RX1 13 "DroopBoard$Diesel" "speed" "I", Cond.fieldLink RX1 19 "DroopBoard$Diesel" "runs" "Z", Cond.fieldLink RX1 23 "DroopBoard$Diesel" "closed" "Z"]
def wsX5_ticksUntilClosing_r2 : List Cond := [Cond.fieldLink RX1 26 "DroopBoard$Diesel" "phase" "I", Cond.fieldLink RX1 29 "DroopBoard$Diesel" "overloaded" "I", Cond.fieldLink RX1 32 "DroopBoard$Diesel" "driven" "I", Cond.fieldLink RX1 35 "DroopBoard$Diesel" "energy" "I", Cond.fieldLink RX1 38 "DroopBoard$Diesel" "trips" "I", Cond.methodLink RX0 35 yX2_copyFrom, Cond.instanceMethod yX2_copyFrom, Cond.selects RX2 yX2_copyFrom yX2_copyFrom, Cond.initialized RX2, Cond.code yX2_copyFrom cX2_copyFrom 2 none, Cond.fieldLink RX2 13 "DroopBoard$Feeder" "load" "I", Cond.fieldLink RX2 7 "DroopBoard$Feeder" "on" "Z", Cond.fieldLink RX2 17 "DroopBoard$Feeder" "sheds" "I", Cond.methodLink RX5 96 yX0_whyNotClosed, Cond.instanceMethod yX0_whyNotClosed, Cond.selects RX0 yX0_whyNotClosed yX0_whyNotClosed, Cond.code yX0_whyNotClosed cX0_whyNotClosed 3 (some .int), Cond.fieldLink RX0 82 "DroopBoard$Diesel" "runs" "Z", Cond.fieldLink RX0 45 "DroopBoard$Diesel" "closed" "Z", Cond.fieldLink RX0 85 "DroopBoard$Diesel" "speed" "I", Cond.methodLink RX0 91 Lib.Math.abs.name, Cond.static Lib.Math.abs.name, Cond.initialized "java/lang/Math", Cond.code Lib.Math.abs.name Lib.Math.abs.code 1 (some .int)]
def wsX5_ticksUntilClosing_r3 : List Cond := [Cond.methodLink RX0 49 yX0_alive, Cond.instanceMethod yX0_alive, Cond.selects RX0 yX0_alive yX0_alive, Cond.code yX0_alive cX0_alive 2 (some .boolean), Cond.methodLink RX0 88 yX0_frequency, Cond.instanceMethod yX0_frequency, Cond.selects RX0 yX0_frequency yX0_frequency, Cond.code yX0_frequency cX0_frequency 6 (some .int), Cond.methodLink RX0 63 yX0_demand, Cond.instanceMethod yX0_demand, Cond.selects RX0 yX0_demand yX0_demand, Cond.code yX0_demand cX0_demand 3 (some .int), Cond.fieldLink RX0 53 "DroopBoard$Feeder" "on" "Z", Cond.fieldLink RX0 56 "DroopBoard$Feeder" "load" "I", Cond.methodLink RX0 67 yX0_total, Cond.instanceMethod yX0_total, Cond.selects RX0 yX0_total yX0_total, Cond.code yX0_total cX0_total 4 (some .int), Cond.methodLink RX0 59 yX1_gives, Cond.instanceMethod yX1_gives, Cond.selects RX1 yX1_gives yX1_gives, Cond.code yX1_gives cX1_gives 2 (some .int), Cond.methodLink RX0 94 yX1_lamps, Cond.instanceMethod yX1_lamps]
def wsX5_ticksUntilClosing_r4 : List Cond := [Cond.selects RX1 yX1_lamps yX1_lamps, Cond.code yX1_lamps cX1_lamps 1 (some .int), Cond.methodLink RX1 44 Lib.Math.min.name, Cond.static Lib.Math.min.name, Cond.code Lib.Math.min.name Lib.Math.min.code 2 (some .int), Cond.methodLink RX5 219 yX0_tick, Cond.instanceMethod yX0_tick, Cond.selects RX0 yX0_tick yX0_tick, Cond.code yX0_tick cX0_tick 4 (some .int), Cond.methodLink RX0 100 yX0_lack, Cond.instanceMethod yX0_lack, Cond.selects RX0 yX0_lack yX0_lack, Cond.code yX0_lack cX0_lack 2 (some .int), Cond.methodLink RX0 73 Lib.Math.max.name, Cond.static Lib.Math.max.name, Cond.code Lib.Math.max.name Lib.Math.max.code 2 (some .int), Cond.methodLink RX0 79 yX0_power, Cond.instanceMethod yX0_power, Cond.selects RX0 yX0_power yX0_power, Cond.code yX0_power cX0_power 4 (some .int), Cond.methodLink RX0 70 yX0_lowestClosed, Cond.instanceMethod yX0_lowestClosed, Cond.selects RX0 yX0_lowestClosed yX0_lowestClosed, Cond.code yX0_lowestClosed cX0_lowestClosed 2 (some .int)]
def wsX5_ticksUntilClosing_r5 : List Cond := [Cond.methodLink RX0 103 yX1_tick, Cond.instanceMethod yX1_tick, Cond.selects RX1 yX1_tick yX1_tick, Cond.code yX1_tick cX1_tick 3 none, Cond.methodLink RX1 50 yJ9_floorMod_7cf53, Cond.static yJ9_floorMod_7cf53, Cond.initialized RJ9, Cond.code yJ9_floorMod_7cf53 cJ9_floorMod_7cf53 3 (some .int), Cond.methodLink RX0 106 yX0_shed, Cond.instanceMethod yX0_shed, Cond.selects RX0 yX0_shed yX0_shed, Cond.code yX0_shed cX0_shed 2 none, Cond.fieldLink RX0 112 "DroopBoard$Feeder" "sheds" "I", Cond.methodLink RX0 109 yX0_trip, Cond.instanceMethod yX0_trip, Cond.selects RX0 yX0_trip yX0_trip, Cond.code yX0_trip cX0_trip 4 (some .int), Cond.fieldLink RX0 115 "DroopBoard$Diesel" "overloaded" "I", Cond.fieldLink RX0 118 "DroopBoard$Diesel" "driven" "I", Cond.fieldLink RX0 124 "DroopBoard$Diesel" "trips" "I", Cond.methodLink RX0 121 yX1_openBreaker, Cond.instanceMethod yX1_openBreaker, Cond.selects RX1 yX1_openBreaker yX1_openBreaker, Cond.code yX1_openBreaker cX1_openBreaker 1 none]
def wsX5_ticksUntilClosing_r6 : List Cond := [Cond.methodLink RX1 41 yX1_beginAnew, Cond.instanceMethod yX1_beginAnew, Cond.selects RX1 yX1_beginAnew yX1_beginAnew, Cond.code yX1_beginAnew cX1_beginAnew 1 none]
def wsX5_ticksUntilClosing : List Cond := .code yX5_ticksUntilClosing cX5_ticksUntilClosing 3 (some .int) :: ((wsX5_ticksUntilClosing_r1 ++ (wsX5_ticksUntilClosing_r2 ++ (wsX5_ticksUntilClosing_r3 ++ (wsX5_ticksUntilClosing_r4 ++ (wsX5_ticksUntilClosing_r5 ++ wsX5_ticksUntilClosing_r6))))) ++ wsX50 ++ wsX00 ++ wsX10 ++ wsX20)
def wsX5_closeIn_r1 : List Cond := [Cond.methodLink RX5 36 yX5_needSet, Cond.static yX5_needSet, Cond.initialized RX5, Cond.code yX5_needSet cX5_needSet 1 none, Cond.classLink RX5 269 "java/lang/IndexOutOfBoundsException", Cond.initialized "java/lang/IndexOutOfBoundsException", Cond.methodLink RX5 265 yX5_isSet, Cond.static yX5_isSet, Cond.code yX5_isSet cX5_isSet 1 (some .boolean), Cond.methodLink RX5 213 yX5_ticksUntilClosing, Cond.instanceMethod yX5_ticksUntilClosing, Cond.selects RX5 yX5_ticksUntilClosing yX5_ticksUntilClosing, Cond.code yX5_ticksUntilClosing cX5_ticksUntilClosing 3 (some .int), Cond.fieldLink RX5 10 "DroopBoard" "board" "LDroopBoard$Board;", Cond.fieldLink RX5 44 "DroopBoard$Board" "diesels" "[LDroopBoard$Diesel;", Cond.fieldLink RX5 48 "DroopBoard$Diesel" "runs" "Z", Cond.fieldLink RX5 16 "DroopBoard" "trial" "LDroopBoard$Board;", Cond.methodLink RX5 180 yX0_copyFrom, Cond.instanceMethod yX0_copyFrom, Cond.selects RX0 yX0_copyFrom yX0_copyFrom, Cond.initialized RX0, Cond.code yX0_copyFrom cX0_copyFrom 3 none, Cond.fieldLink RX0 11 "DroopBoard$Board" "diesels" "[LDroopBoard$Diesel;", Cond.fieldLink RX0 19 "DroopBoard$Board" "feeders" "[LDroopBoard$Feeder;"]
def wsX5_closeIn_r2 : List Cond := [Cond.fieldLink RX0 23 "DroopBoard$Board" "settings" "[I", Cond.fieldLink RX0 38 "DroopBoard$Board" "ticks" "I", Cond.fieldLink RX0 42 "DroopBoard$Board" "energy" "I", Cond.methodLink RX0 31 yX1_copyFrom, Cond.instanceMethod yX1_copyFrom, Cond.selects RX1 yX1_copyFrom yX1_copyFrom, Cond.initialized RX1, Cond.code yX1_copyFrom cX1_copyFrom 2 none, Cond.fieldLink RX1 16 "DroopBoard$Diesel" "rating" "I", Cond.fieldLink RX1 7 "DroopBoard$Diesel" "droop" "I", Cond.fieldLink RX1 13 "DroopBoard$Diesel" "speed" "I", Cond.fieldLink RX1 19 "DroopBoard$Diesel" "runs" "Z", Cond.fieldLink RX1 23 "DroopBoard$Diesel" "closed" "Z", Cond.fieldLink RX1 26 "DroopBoard$Diesel" "phase" "I", Cond.fieldLink RX1 29 "DroopBoard$Diesel" "overloaded" "I", Cond.fieldLink RX1 32 "DroopBoard$Diesel" "driven" "I", Cond.fieldLink RX1 35 "DroopBoard$Diesel" "energy" "I", Cond.fieldLink RX1 38 "DroopBoard$Diesel" "trips" "I", Cond.methodLink RX0 35 yX2_copyFrom, Cond.instanceMethod yX2_copyFrom, Cond.selects RX2 yX2_copyFrom yX2_copyFrom, Cond.initialized RX2, Cond.code yX2_copyFrom cX2_copyFrom 2 none, Cond.fieldLink RX2 13 "DroopBoard$Feeder" "load" "I"]
def wsX5_closeIn_r3 : List Cond := [Cond.fieldLink RX2 7 "DroopBoard$Feeder" "on" "Z", Cond.fieldLink RX2 17 "DroopBoard$Feeder" "sheds" "I", Cond.methodLink RX5 96 yX0_whyNotClosed, Cond.instanceMethod yX0_whyNotClosed, Cond.selects RX0 yX0_whyNotClosed yX0_whyNotClosed, Cond.code yX0_whyNotClosed cX0_whyNotClosed 3 (some .int), Cond.fieldLink RX0 82 "DroopBoard$Diesel" "runs" "Z", Cond.fieldLink RX0 45 "DroopBoard$Diesel" "closed" "Z", Cond.fieldLink RX0 85 "DroopBoard$Diesel" "speed" "I", Cond.methodLink RX0 91 Lib.Math.abs.name, Cond.static Lib.Math.abs.name, Cond.initialized "java/lang/Math", Cond.code Lib.Math.abs.name Lib.Math.abs.code 1 (some .int), Cond.methodLink RX0 49 yX0_alive, Cond.instanceMethod yX0_alive, Cond.selects RX0 yX0_alive yX0_alive, Cond.code yX0_alive cX0_alive 2 (some .boolean), Cond.methodLink RX0 88 yX0_frequency, Cond.instanceMethod yX0_frequency, Cond.selects RX0 yX0_frequency yX0_frequency, Cond.code yX0_frequency cX0_frequency 6 (some .int), Cond.methodLink RX0 63 yX0_demand, Cond.instanceMethod yX0_demand, Cond.selects RX0 yX0_demand yX0_demand]
def wsX5_closeIn_r4 : List Cond := [Cond.code yX0_demand cX0_demand 3 (some .int), Cond.fieldLink RX0 53 "DroopBoard$Feeder" "on" "Z", Cond.fieldLink RX0 56 "DroopBoard$Feeder" "load" "I", Cond.methodLink RX0 67 yX0_total, Cond.instanceMethod yX0_total, Cond.selects RX0 yX0_total yX0_total, Cond.code yX0_total cX0_total 4 (some .int), Cond.methodLink RX0 59 yX1_gives, Cond.instanceMethod yX1_gives, Cond.selects RX1 yX1_gives yX1_gives, Cond.code yX1_gives cX1_gives 2 (some .int), Cond.methodLink RX0 94 yX1_lamps, Cond.instanceMethod yX1_lamps, Cond.selects RX1 yX1_lamps yX1_lamps, Cond.code yX1_lamps cX1_lamps 1 (some .int), Cond.methodLink RX1 44 Lib.Math.min.name, Cond.static Lib.Math.min.name, Cond.code Lib.Math.min.name Lib.Math.min.code 2 (some .int), Cond.methodLink RX5 219 yX0_tick, Cond.instanceMethod yX0_tick, Cond.selects RX0 yX0_tick yX0_tick, Cond.code yX0_tick cX0_tick 4 (some .int), Cond.methodLink RX0 100 yX0_lack, Cond.instanceMethod yX0_lack]
def wsX5_closeIn_r5 : List Cond := [Cond.selects RX0 yX0_lack yX0_lack, Cond.code yX0_lack cX0_lack 2 (some .int), Cond.methodLink RX0 73 Lib.Math.max.name, Cond.static Lib.Math.max.name, Cond.code Lib.Math.max.name Lib.Math.max.code 2 (some .int), Cond.methodLink RX0 79 yX0_power, Cond.instanceMethod yX0_power, Cond.selects RX0 yX0_power yX0_power, Cond.code yX0_power cX0_power 4 (some .int), Cond.methodLink RX0 70 yX0_lowestClosed, Cond.instanceMethod yX0_lowestClosed, Cond.selects RX0 yX0_lowestClosed yX0_lowestClosed, Cond.code yX0_lowestClosed cX0_lowestClosed 2 (some .int), Cond.methodLink RX0 103 yX1_tick, Cond.instanceMethod yX1_tick, Cond.selects RX1 yX1_tick yX1_tick, Cond.code yX1_tick cX1_tick 3 none, Cond.methodLink RX1 50 yJ9_floorMod_7cf53, Cond.static yJ9_floorMod_7cf53, Cond.initialized RJ9, Cond.code yJ9_floorMod_7cf53 cJ9_floorMod_7cf53 3 (some .int), Cond.methodLink RX0 106 yX0_shed, Cond.instanceMethod yX0_shed, Cond.selects RX0 yX0_shed yX0_shed]
def wsX5_closeIn_r6 : List Cond := [Cond.code yX0_shed cX0_shed 2 none, Cond.fieldLink RX0 112 "DroopBoard$Feeder" "sheds" "I", Cond.methodLink RX0 109 yX0_trip, Cond.instanceMethod yX0_trip, Cond.selects RX0 yX0_trip yX0_trip, Cond.code yX0_trip cX0_trip 4 (some .int), Cond.fieldLink RX0 115 "DroopBoard$Diesel" "overloaded" "I", Cond.fieldLink RX0 118 "DroopBoard$Diesel" "driven" "I", Cond.fieldLink RX0 124 "DroopBoard$Diesel" "trips" "I", Cond.methodLink RX0 121 yX1_openBreaker, Cond.instanceMethod yX1_openBreaker, Cond.selects RX1 yX1_openBreaker yX1_openBreaker, Cond.code yX1_openBreaker cX1_openBreaker 1 none, Cond.methodLink RX1 41 yX1_beginAnew, Cond.instanceMethod yX1_beginAnew, Cond.selects RX1 yX1_beginAnew yX1_beginAnew, Cond.code yX1_beginAnew cX1_beginAnew 1 none]
def wsX5_closeIn : List Cond := .code yX5_closeIn cX5_closeIn 2 (some .int) :: ((wsX5_closeIn_r1 ++ (wsX5_closeIn_r2 ++ (wsX5_closeIn_r3 ++ (wsX5_closeIn_r4 ++ (wsX5_closeIn_r5 ++ wsX5_closeIn_r6))))) ++ wsX50 ++ wsX00 ++ wsX10 ++ wsX20 ++ (vx_atS RX5 273 "java/lang/IndexOutOfBoundsException" ["java/lang/RuntimeException", "java/lang/Exception"]).filter goodWord)
def wsX5_speedForFairShare_r1 : List Cond := [Cond.fieldLink RX5 10 "DroopBoard" "board" "LDroopBoard$Board;", Cond.fieldLink RX5 44 "DroopBoard$Board" "diesels" "[LDroopBoard$Diesel;", Cond.fieldLink RX5 108 "DroopBoard$Diesel" "closed" "Z", Cond.fieldLink RX5 65 "DroopBoard$Diesel" "rating" "I", Cond.fieldLink RX5 16 "DroopBoard" "trial" "LDroopBoard$Board;", Cond.fieldLink RX5 72 "DroopBoard$Diesel" "speed" "I", Cond.methodLink RX5 331 Lib.Math.abs.name, Cond.static Lib.Math.abs.name, Cond.initialized "java/lang/Math", Cond.code Lib.Math.abs.name Lib.Math.abs.code 1 (some .int), Cond.methodLink RX5 222 yX0_ratingsClosed, Cond.instanceMethod yX0_ratingsClosed, Cond.selects RX0 yX0_ratingsClosed yX0_ratingsClosed, Cond.initialized RX0, Cond.code yX0_ratingsClosed cX0_ratingsClosed 3 (some .int), Cond.fieldLink RX0 11 "DroopBoard$Board" "diesels" "[LDroopBoard$Diesel;", Cond.fieldLink RX0 45 "DroopBoard$Diesel" "closed" "Z", Cond.fieldLink RX0 131 "DroopBoard$Diesel" "rating" "I", Cond.methodLink RX5 225 yX0_demand, Cond.instanceMethod yX0_demand, Cond.selects RX0 yX0_demand yX0_demand, Cond.code yX0_demand cX0_demand 3 (some .int), Cond.fieldLink RX0 19 "DroopBoard$Board" "feeders" "[LDroopBoard$Feeder;", Cond.fieldLink RX0 53 "DroopBoard$Feeder" "on" "Z"]
def wsX5_speedForFairShare_r2 : List Cond := [Cond.fieldLink RX0 56 "DroopBoard$Feeder" "load" "I", Cond.methodLink RX0 49 yX0_alive, Cond.instanceMethod yX0_alive, Cond.selects RX0 yX0_alive yX0_alive, Cond.code yX0_alive cX0_alive 2 (some .boolean), Cond.methodLink RX5 180 yX0_copyFrom, Cond.instanceMethod yX0_copyFrom, Cond.selects RX0 yX0_copyFrom yX0_copyFrom, Cond.code yX0_copyFrom cX0_copyFrom 3 none, Cond.fieldLink RX0 23 "DroopBoard$Board" "settings" "[I", Cond.fieldLink RX0 38 "DroopBoard$Board" "ticks" "I", Cond.fieldLink RX0 42 "DroopBoard$Board" "energy" "I", Cond.methodLink RX0 31 yX1_copyFrom, Cond.instanceMethod yX1_copyFrom, Cond.selects RX1 yX1_copyFrom yX1_copyFrom, Cond.initialized RX1, Cond.code yX1_copyFrom cX1_copyFrom 2 none, Cond.fieldLink RX1 16 "DroopBoard$Diesel" "rating" "I", Cond.fieldLink RX1 7 "DroopBoard$Diesel" "droop" "I", Cond.fieldLink RX1 13 "DroopBoard$Diesel" "speed" "I", Cond.fieldLink RX1 19 "DroopBoard$Diesel" "runs" "Z", Cond.fieldLink RX1 23 "DroopBoard$Diesel" "closed" "Z", Cond.fieldLink RX1 26 "DroopBoard$Diesel" "phase" "I", Cond.fieldLink RX1 29 "DroopBoard$Diesel" "overloaded" "I"]
def wsX5_speedForFairShare_r3 : List Cond := [Cond.fieldLink RX1 32 "DroopBoard$Diesel" "driven" "I", Cond.fieldLink RX1 35 "DroopBoard$Diesel" "energy" "I", Cond.fieldLink RX1 38 "DroopBoard$Diesel" "trips" "I", Cond.methodLink RX0 35 yX2_copyFrom, Cond.instanceMethod yX2_copyFrom, Cond.selects RX2 yX2_copyFrom yX2_copyFrom, Cond.initialized RX2, Cond.code yX2_copyFrom cX2_copyFrom 2 none, Cond.fieldLink RX2 13 "DroopBoard$Feeder" "load" "I", Cond.fieldLink RX2 7 "DroopBoard$Feeder" "on" "Z", Cond.fieldLink RX2 17 "DroopBoard$Feeder" "sheds" "I", Cond.methodLink RX5 105 yX0_frequency, Cond.instanceMethod yX0_frequency, Cond.selects RX0 yX0_frequency yX0_frequency, Cond.code yX0_frequency cX0_frequency 6 (some .int), Cond.methodLink RX0 63 yX0_demand, Cond.methodLink RX0 67 yX0_total, Cond.instanceMethod yX0_total, Cond.selects RX0 yX0_total yX0_total, Cond.code yX0_total cX0_total 4 (some .int), Cond.methodLink RX0 59 yX1_gives, Cond.instanceMethod yX1_gives, Cond.selects RX1 yX1_gives yX1_gives, Cond.code yX1_gives cX1_gives 2 (some .int)]
def wsX5_speedForFairShare_r4 : List Cond := [Cond.methodLink RX5 293 yX0_power, Cond.instanceMethod yX0_power, Cond.selects RX0 yX0_power yX0_power, Cond.code yX0_power cX0_power 4 (some .int), Cond.methodLink RX0 73 Lib.Math.max.name, Cond.static Lib.Math.max.name, Cond.code Lib.Math.max.name Lib.Math.max.code 2 (some .int), Cond.methodLink RX0 70 yX0_lowestClosed, Cond.instanceMethod yX0_lowestClosed, Cond.selects RX0 yX0_lowestClosed yX0_lowestClosed, Cond.code yX0_lowestClosed cX0_lowestClosed 2 (some .int)]
def wsX5_speedForFairShare : List Cond := .code yX5_speedForFairShare cX5_speedForFairShare 8 (some .int) :: ((wsX5_speedForFairShare_r1 ++ (wsX5_speedForFairShare_r2 ++ (wsX5_speedForFairShare_r3 ++ wsX5_speedForFairShare_r4))) ++ wsX50 ++ wsX00 ++ wsX10 ++ wsX20)
def wsX5_fairSpeed_r1 : List Cond := [Cond.methodLink RX5 36 yX5_needSet, Cond.static yX5_needSet, Cond.initialized RX5, Cond.code yX5_needSet cX5_needSet 1 none, Cond.classLink RX5 269 "java/lang/IndexOutOfBoundsException", Cond.initialized "java/lang/IndexOutOfBoundsException", Cond.methodLink RX5 265 yX5_isSet, Cond.static yX5_isSet, Cond.code yX5_isSet cX5_isSet 1 (some .boolean), Cond.methodLink RX5 216 yX5_speedForFairShare, Cond.instanceMethod yX5_speedForFairShare, Cond.selects RX5 yX5_speedForFairShare yX5_speedForFairShare, Cond.code yX5_speedForFairShare cX5_speedForFairShare 8 (some .int), Cond.fieldLink RX5 10 "DroopBoard" "board" "LDroopBoard$Board;", Cond.fieldLink RX5 44 "DroopBoard$Board" "diesels" "[LDroopBoard$Diesel;", Cond.fieldLink RX5 108 "DroopBoard$Diesel" "closed" "Z", Cond.fieldLink RX5 65 "DroopBoard$Diesel" "rating" "I", Cond.fieldLink RX5 16 "DroopBoard" "trial" "LDroopBoard$Board;", Cond.fieldLink RX5 72 "DroopBoard$Diesel" "speed" "I", Cond.methodLink RX5 331 Lib.Math.abs.name, Cond.static Lib.Math.abs.name, Cond.initialized "java/lang/Math", Cond.code Lib.Math.abs.name Lib.Math.abs.code 1 (some .int), Cond.methodLink RX5 222 yX0_ratingsClosed]
def wsX5_fairSpeed_r2 : List Cond := [Cond.instanceMethod yX0_ratingsClosed, Cond.selects RX0 yX0_ratingsClosed yX0_ratingsClosed, Cond.initialized RX0, Cond.code yX0_ratingsClosed cX0_ratingsClosed 3 (some .int), Cond.fieldLink RX0 11 "DroopBoard$Board" "diesels" "[LDroopBoard$Diesel;", Cond.fieldLink RX0 45 "DroopBoard$Diesel" "closed" "Z", Cond.fieldLink RX0 131 "DroopBoard$Diesel" "rating" "I", Cond.methodLink RX5 225 yX0_demand, Cond.instanceMethod yX0_demand, Cond.selects RX0 yX0_demand yX0_demand, Cond.code yX0_demand cX0_demand 3 (some .int), Cond.fieldLink RX0 19 "DroopBoard$Board" "feeders" "[LDroopBoard$Feeder;", Cond.fieldLink RX0 53 "DroopBoard$Feeder" "on" "Z", Cond.fieldLink RX0 56 "DroopBoard$Feeder" "load" "I", Cond.methodLink RX0 49 yX0_alive, Cond.instanceMethod yX0_alive, Cond.selects RX0 yX0_alive yX0_alive, Cond.code yX0_alive cX0_alive 2 (some .boolean), Cond.methodLink RX5 180 yX0_copyFrom, Cond.instanceMethod yX0_copyFrom, Cond.selects RX0 yX0_copyFrom yX0_copyFrom, Cond.code yX0_copyFrom cX0_copyFrom 3 none, Cond.fieldLink RX0 23 "DroopBoard$Board" "settings" "[I", Cond.fieldLink RX0 38 "DroopBoard$Board" "ticks" "I"]
def wsX5_fairSpeed_r3 : List Cond := [Cond.fieldLink RX0 42 "DroopBoard$Board" "energy" "I", Cond.methodLink RX0 31 yX1_copyFrom, Cond.instanceMethod yX1_copyFrom, Cond.selects RX1 yX1_copyFrom yX1_copyFrom, Cond.initialized RX1, Cond.code yX1_copyFrom cX1_copyFrom 2 none, Cond.fieldLink RX1 16 "DroopBoard$Diesel" "rating" "I", Cond.fieldLink RX1 7 "DroopBoard$Diesel" "droop" "I", Cond.fieldLink RX1 13 "DroopBoard$Diesel" "speed" "I", Cond.fieldLink RX1 19 "DroopBoard$Diesel" "runs" "Z", Cond.fieldLink RX1 23 "DroopBoard$Diesel" "closed" "Z", Cond.fieldLink RX1 26 "DroopBoard$Diesel" "phase" "I", Cond.fieldLink RX1 29 "DroopBoard$Diesel" "overloaded" "I", Cond.fieldLink RX1 32 "DroopBoard$Diesel" "driven" "I", Cond.fieldLink RX1 35 "DroopBoard$Diesel" "energy" "I", Cond.fieldLink RX1 38 "DroopBoard$Diesel" "trips" "I", Cond.methodLink RX0 35 yX2_copyFrom, Cond.instanceMethod yX2_copyFrom, Cond.selects RX2 yX2_copyFrom yX2_copyFrom, Cond.initialized RX2, Cond.code yX2_copyFrom cX2_copyFrom 2 none, Cond.fieldLink RX2 13 "DroopBoard$Feeder" "load" "I", Cond.fieldLink RX2 7 "DroopBoard$Feeder" "on" "Z", Cond.fieldLink RX2 17 "DroopBoard$Feeder" "sheds" "I"]
def wsX5_fairSpeed_r4 : List Cond := [Cond.methodLink RX5 105 yX0_frequency, Cond.instanceMethod yX0_frequency, Cond.selects RX0 yX0_frequency yX0_frequency, Cond.code yX0_frequency cX0_frequency 6 (some .int), Cond.methodLink RX0 63 yX0_demand, Cond.methodLink RX0 67 yX0_total, Cond.instanceMethod yX0_total, Cond.selects RX0 yX0_total yX0_total, Cond.code yX0_total cX0_total 4 (some .int), Cond.methodLink RX0 59 yX1_gives, Cond.instanceMethod yX1_gives, Cond.selects RX1 yX1_gives yX1_gives, Cond.code yX1_gives cX1_gives 2 (some .int), Cond.methodLink RX5 293 yX0_power, Cond.instanceMethod yX0_power, Cond.selects RX0 yX0_power yX0_power, Cond.code yX0_power cX0_power 4 (some .int), Cond.methodLink RX0 73 Lib.Math.max.name, Cond.static Lib.Math.max.name, Cond.code Lib.Math.max.name Lib.Math.max.code 2 (some .int), Cond.methodLink RX0 70 yX0_lowestClosed, Cond.instanceMethod yX0_lowestClosed, Cond.selects RX0 yX0_lowestClosed yX0_lowestClosed, Cond.code yX0_lowestClosed cX0_lowestClosed 2 (some .int)]
def wsX5_fairSpeed : List Cond := .code yX5_fairSpeed cX5_fairSpeed 2 (some .int) :: ((wsX5_fairSpeed_r1 ++ (wsX5_fairSpeed_r2 ++ (wsX5_fairSpeed_r3 ++ wsX5_fairSpeed_r4))) ++ wsX50 ++ wsX00 ++ wsX10 ++ wsX20 ++ (vx_atS RX5 273 "java/lang/IndexOutOfBoundsException" ["java/lang/RuntimeException", "java/lang/Exception"]).filter goodWord)
def wsX5_nextTrip_r1 : List Cond := [Cond.fieldLink RX5 16 "DroopBoard" "trial" "LDroopBoard$Board;", Cond.fieldLink RX5 10 "DroopBoard" "board" "LDroopBoard$Board;", Cond.methodLink RX5 180 yX0_copyFrom, Cond.instanceMethod yX0_copyFrom, Cond.selects RX0 yX0_copyFrom yX0_copyFrom, Cond.initialized RX0, Cond.code yX0_copyFrom cX0_copyFrom 3 none, Cond.fieldLink RX0 11 "DroopBoard$Board" "diesels" "[LDroopBoard$Diesel;", Cond.fieldLink RX0 19 "DroopBoard$Board" "feeders" "[LDroopBoard$Feeder;", Cond.fieldLink RX0 23 "DroopBoard$Board" "settings" "[I", Cond.fieldLink RX0 38 "DroopBoard$Board" "ticks" "I", Cond.fieldLink RX0 42 "DroopBoard$Board" "energy" "I", Cond.methodLink RX0 31 yX1_copyFrom, Cond.instanceMethod yX1_copyFrom, Cond.selects RX1 yX1_copyFrom yX1_copyFrom, Cond.initialized RX1, Cond.code yX1_copyFrom cX1_copyFrom 2 none, Cond.fieldLink RX1 16 "DroopBoard$Diesel" "rating" "I", Cond.fieldLink RX1 7 "DroopBoard$Diesel" "droop" "I", Cond.fieldLink RX1 13 "DroopBoard$Diesel" "speed" "I", Cond.fieldLink RX1 19 "DroopBoard$Diesel" "runs" "Z", Cond.fieldLink RX1 23 "DroopBoard$Diesel" "closed" "Z", Cond.fieldLink RX1 26 "DroopBoard$Diesel" "phase" "I", Cond.fieldLink RX1 29 "DroopBoard$Diesel" "overloaded" "I"]
def wsX5_nextTrip_r2 : List Cond := [Cond.fieldLink RX1 32 "DroopBoard$Diesel" "driven" "I", Cond.fieldLink RX1 35 "DroopBoard$Diesel" "energy" "I", Cond.fieldLink RX1 38 "DroopBoard$Diesel" "trips" "I", Cond.methodLink RX0 35 yX2_copyFrom, Cond.instanceMethod yX2_copyFrom, Cond.selects RX2 yX2_copyFrom yX2_copyFrom, Cond.initialized RX2, Cond.code yX2_copyFrom cX2_copyFrom 2 none, Cond.fieldLink RX2 13 "DroopBoard$Feeder" "load" "I", Cond.fieldLink RX2 7 "DroopBoard$Feeder" "on" "Z", Cond.fieldLink RX2 17 "DroopBoard$Feeder" "sheds" "I", Cond.methodLink RX5 219 yX0_tick, Cond.instanceMethod yX0_tick, Cond.selects RX0 yX0_tick yX0_tick, Cond.code yX0_tick cX0_tick 4 (some .int), Cond.methodLink RX0 88 yX0_frequency, Cond.instanceMethod yX0_frequency, Cond.selects RX0 yX0_frequency yX0_frequency, Cond.code yX0_frequency cX0_frequency 6 (some .int), Cond.methodLink RX0 49 yX0_alive, Cond.instanceMethod yX0_alive, Cond.selects RX0 yX0_alive yX0_alive, Cond.code yX0_alive cX0_alive 2 (some .boolean), Cond.fieldLink RX0 45 "DroopBoard$Diesel" "closed" "Z"]
def wsX5_nextTrip_r3 : List Cond := [Cond.methodLink RX0 63 yX0_demand, Cond.instanceMethod yX0_demand, Cond.selects RX0 yX0_demand yX0_demand, Cond.code yX0_demand cX0_demand 3 (some .int), Cond.fieldLink RX0 53 "DroopBoard$Feeder" "on" "Z", Cond.fieldLink RX0 56 "DroopBoard$Feeder" "load" "I", Cond.methodLink RX0 67 yX0_total, Cond.instanceMethod yX0_total, Cond.selects RX0 yX0_total yX0_total, Cond.code yX0_total cX0_total 4 (some .int), Cond.methodLink RX0 59 yX1_gives, Cond.instanceMethod yX1_gives, Cond.selects RX1 yX1_gives yX1_gives, Cond.code yX1_gives cX1_gives 2 (some .int), Cond.methodLink RX0 100 yX0_lack, Cond.instanceMethod yX0_lack, Cond.selects RX0 yX0_lack yX0_lack, Cond.code yX0_lack cX0_lack 2 (some .int), Cond.methodLink RX0 73 Lib.Math.max.name, Cond.static Lib.Math.max.name, Cond.initialized "java/lang/Math", Cond.code Lib.Math.max.name Lib.Math.max.code 2 (some .int), Cond.methodLink RX0 79 yX0_power, Cond.instanceMethod yX0_power]
def wsX5_nextTrip_r4 : List Cond := [Cond.selects RX0 yX0_power yX0_power, Cond.code yX0_power cX0_power 4 (some .int), Cond.methodLink RX0 70 yX0_lowestClosed, Cond.instanceMethod yX0_lowestClosed, Cond.selects RX0 yX0_lowestClosed yX0_lowestClosed, Cond.code yX0_lowestClosed cX0_lowestClosed 2 (some .int), Cond.methodLink RX0 103 yX1_tick, Cond.instanceMethod yX1_tick, Cond.selects RX1 yX1_tick yX1_tick, Cond.code yX1_tick cX1_tick 3 none, Cond.methodLink RX1 50 yJ9_floorMod_7cf53, Cond.static yJ9_floorMod_7cf53, Cond.initialized RJ9, Cond.code yJ9_floorMod_7cf53 cJ9_floorMod_7cf53 3 (some .int), Cond.methodLink RX0 106 yX0_shed, Cond.instanceMethod yX0_shed, Cond.selects RX0 yX0_shed yX0_shed, Cond.code yX0_shed cX0_shed 2 none, Cond.fieldLink RX0 112 "DroopBoard$Feeder" "sheds" "I", Cond.methodLink RX0 109 yX0_trip, Cond.instanceMethod yX0_trip, Cond.selects RX0 yX0_trip yX0_trip, Cond.code yX0_trip cX0_trip 4 (some .int), Cond.fieldLink RX0 115 "DroopBoard$Diesel" "overloaded" "I"]
def wsX5_nextTrip_r5 : List Cond := [Cond.fieldLink RX0 118 "DroopBoard$Diesel" "driven" "I", Cond.fieldLink RX0 124 "DroopBoard$Diesel" "trips" "I", Cond.methodLink RX0 121 yX1_openBreaker, Cond.instanceMethod yX1_openBreaker, Cond.selects RX1 yX1_openBreaker yX1_openBreaker, Cond.code yX1_openBreaker cX1_openBreaker 1 none, Cond.methodLink RX1 41 yX1_beginAnew, Cond.instanceMethod yX1_beginAnew, Cond.selects RX1 yX1_beginAnew yX1_beginAnew, Cond.code yX1_beginAnew cX1_beginAnew 1 none]
def wsX5_nextTrip : List Cond := .code yX5_nextTrip cX5_nextTrip 2 (some .int) :: ((wsX5_nextTrip_r1 ++ (wsX5_nextTrip_r2 ++ (wsX5_nextTrip_r3 ++ (wsX5_nextTrip_r4 ++ wsX5_nextTrip_r5)))) ++ wsX50 ++ wsX00 ++ wsX10 ++ wsX20)
def wsX5_loadShare : List Cond := .code yX5_loadShare cX5_loadShare 2 (some .double) :: ([.fieldLink RX5 10 "DroopBoard" "board" "LDroopBoard$Board;", .methodLink RX5 222 yX0_ratingsClosed, .instanceMethod yX0_ratingsClosed, .selects RX0 yX0_ratingsClosed yX0_ratingsClosed, .initialized RX0, .code yX0_ratingsClosed cX0_ratingsClosed 3 (some .int), .fieldLink RX0 11 "DroopBoard$Board" "diesels" "[LDroopBoard$Diesel;", .fieldLink RX0 45 "DroopBoard$Diesel" "closed" "Z", .fieldLink RX0 131 "DroopBoard$Diesel" "rating" "I", .methodLink RX5 225 yX0_demand, .instanceMethod yX0_demand, .selects RX0 yX0_demand yX0_demand, .code yX0_demand cX0_demand 3 (some .int), .fieldLink RX0 19 "DroopBoard$Board" "feeders" "[LDroopBoard$Feeder;", .fieldLink RX0 53 "DroopBoard$Feeder" "on" "Z", .fieldLink RX0 56 "DroopBoard$Feeder" "load" "I", .methodLink RX0 49 yX0_alive, .instanceMethod yX0_alive, .selects RX0 yX0_alive yX0_alive, .code yX0_alive cX0_alive 2 (some .boolean)] ++ wsX50 ++ wsX00 ++ wsX10 ++ wsX20)
def wsX5_meanPower : List Cond := .code yX5_meanPower cX5_meanPower 1 (some .float) :: ([.fieldLink RX5 10 "DroopBoard" "board" "LDroopBoard$Board;", .fieldLink RX5 186 "DroopBoard$Board" "ticks" "I", .fieldLink RX5 228 "DroopBoard$Board" "energy" "I"] ++ wsX50 ++ wsX00)
def wsX5_mixed : List Cond := .code yX5_mixed cX5_mixed 4 (some .long) :: ([.constantLong RX5 263 (31)])
def wsX5_mixedWithSet_r1 : List Cond := [Cond.methodLink RX5 199 yX5_tellOfSet, Cond.instanceMethod yX5_tellOfSet, Cond.selects RX5 yX5_tellOfSet yX5_tellOfSet, Cond.initialized RX5, Cond.code yX5_tellOfSet cX5_tellOfSet 4 (some .int), Cond.fieldLink RX5 10 "DroopBoard" "board" "LDroopBoard$Board;", Cond.fieldLink RX5 44 "DroopBoard$Board" "diesels" "[LDroopBoard$Diesel;", Cond.fieldLink RX5 65 "DroopBoard$Diesel" "rating" "I", Cond.fieldLink RX5 69 "DroopBoard$Diesel" "droop" "I", Cond.fieldLink RX5 72 "DroopBoard$Diesel" "speed" "I", Cond.fieldLink RX5 48 "DroopBoard$Diesel" "runs" "Z", Cond.fieldLink RX5 108 "DroopBoard$Diesel" "closed" "Z", Cond.fieldLink RX5 296 "DroopBoard$Diesel" "phase" "I", Cond.fieldLink RX5 302 "DroopBoard$Diesel" "overloaded" "I", Cond.fieldLink RX5 305 "DroopBoard$Diesel" "driven" "I", Cond.fieldLink RX5 308 "DroopBoard$Diesel" "energy" "I", Cond.fieldLink RX5 309 "DroopBoard$Diesel" "trips" "I", Cond.methodLink RX5 131 yX5_oneIf, Cond.static yX5_oneIf, Cond.code yX5_oneIf cX5_oneIf 1 (some .int), Cond.methodLink RX5 105 yX0_frequency, Cond.instanceMethod yX0_frequency, Cond.selects RX0 yX0_frequency yX0_frequency, Cond.initialized RX0]
def wsX5_mixedWithSet_r2 : List Cond := [Cond.code yX0_frequency cX0_frequency 6 (some .int), Cond.methodLink RX0 49 yX0_alive, Cond.instanceMethod yX0_alive, Cond.selects RX0 yX0_alive yX0_alive, Cond.code yX0_alive cX0_alive 2 (some .boolean), Cond.fieldLink RX0 11 "DroopBoard$Board" "diesels" "[LDroopBoard$Diesel;", Cond.fieldLink RX0 45 "DroopBoard$Diesel" "closed" "Z", Cond.methodLink RX0 63 yX0_demand, Cond.instanceMethod yX0_demand, Cond.selects RX0 yX0_demand yX0_demand, Cond.code yX0_demand cX0_demand 3 (some .int), Cond.fieldLink RX0 19 "DroopBoard$Board" "feeders" "[LDroopBoard$Feeder;", Cond.fieldLink RX0 53 "DroopBoard$Feeder" "on" "Z", Cond.fieldLink RX0 56 "DroopBoard$Feeder" "load" "I", Cond.methodLink RX0 67 yX0_total, Cond.instanceMethod yX0_total, Cond.selects RX0 yX0_total yX0_total, Cond.code yX0_total cX0_total 4 (some .int), Cond.methodLink RX0 59 yX1_gives, Cond.instanceMethod yX1_gives, Cond.selects RX1 yX1_gives yX1_gives, Cond.initialized RX1, Cond.code yX1_gives cX1_gives 2 (some .int), Cond.fieldLink RX1 23 "DroopBoard$Diesel" "closed" "Z"]
def wsX5_mixedWithSet_r3 : List Cond := [Cond.fieldLink RX1 7 "DroopBoard$Diesel" "droop" "I", Cond.fieldLink RX1 13 "DroopBoard$Diesel" "speed" "I", Cond.fieldLink RX1 16 "DroopBoard$Diesel" "rating" "I", Cond.methodLink RX5 293 yX0_power, Cond.instanceMethod yX0_power, Cond.selects RX0 yX0_power yX0_power, Cond.code yX0_power cX0_power 4 (some .int), Cond.methodLink RX0 73 Lib.Math.max.name, Cond.static Lib.Math.max.name, Cond.initialized "java/lang/Math", Cond.code Lib.Math.max.name Lib.Math.max.code 2 (some .int), Cond.methodLink RX0 70 yX0_lowestClosed, Cond.instanceMethod yX0_lowestClosed, Cond.selects RX0 yX0_lowestClosed yX0_lowestClosed, Cond.code yX0_lowestClosed cX0_lowestClosed 2 (some .int), Cond.methodLink RX5 299 yX1_lamps, Cond.instanceMethod yX1_lamps, Cond.selects RX1 yX1_lamps yX1_lamps, Cond.code yX1_lamps cX1_lamps 1 (some .int), Cond.fieldLink RX1 26 "DroopBoard$Diesel" "phase" "I", Cond.methodLink RX1 44 Lib.Math.min.name, Cond.static Lib.Math.min.name, Cond.code Lib.Math.min.name Lib.Math.min.code 2 (some .int), Cond.methodLink RX5 96 yX0_whyNotClosed]
def wsX5_mixedWithSet_r4 : List Cond := [Cond.instanceMethod yX0_whyNotClosed, Cond.selects RX0 yX0_whyNotClosed yX0_whyNotClosed, Cond.code yX0_whyNotClosed cX0_whyNotClosed 3 (some .int), Cond.fieldLink RX0 82 "DroopBoard$Diesel" "runs" "Z", Cond.fieldLink RX0 85 "DroopBoard$Diesel" "speed" "I", Cond.methodLink RX0 91 Lib.Math.abs.name, Cond.static Lib.Math.abs.name, Cond.code Lib.Math.abs.name Lib.Math.abs.code 1 (some .int), Cond.fieldLink RX0 23 "DroopBoard$Board" "settings" "[I", Cond.methodLink RX0 88 yX0_frequency, Cond.methodLink RX0 94 yX1_lamps, Cond.methodLink RX5 233 yX5_mixed, Cond.static yX5_mixed, Cond.code yX5_mixed cX5_mixed 4 (some .long), Cond.constantLong RX5 263 (31), Cond.methodLink RX5 209 yX5_tellIfSpeed, Cond.instanceMethod yX5_tellIfSpeed, Cond.selects RX5 yX5_tellIfSpeed yX5_tellIfSpeed, Cond.code yX5_tellIfSpeed cX5_tellIfSpeed 5 (some .int), Cond.fieldLink RX5 16 "DroopBoard" "trial" "LDroopBoard$Board;", Cond.methodLink RX5 180 yX0_copyFrom, Cond.instanceMethod yX0_copyFrom, Cond.selects RX0 yX0_copyFrom yX0_copyFrom, Cond.code yX0_copyFrom cX0_copyFrom 3 none]
def wsX5_mixedWithSet_r5 : List Cond := [Cond.fieldLink RX0 38 "DroopBoard$Board" "ticks" "I", Cond.fieldLink RX0 42 "DroopBoard$Board" "energy" "I", Cond.methodLink RX0 31 yX1_copyFrom, Cond.instanceMethod yX1_copyFrom, Cond.selects RX1 yX1_copyFrom yX1_copyFrom, Cond.code yX1_copyFrom cX1_copyFrom 2 none, Cond.fieldLink RX1 19 "DroopBoard$Diesel" "runs" "Z", Cond.fieldLink RX1 29 "DroopBoard$Diesel" "overloaded" "I", Cond.fieldLink RX1 32 "DroopBoard$Diesel" "driven" "I", Cond.fieldLink RX1 35 "DroopBoard$Diesel" "energy" "I", Cond.fieldLink RX1 38 "DroopBoard$Diesel" "trips" "I", Cond.methodLink RX0 35 yX2_copyFrom, Cond.instanceMethod yX2_copyFrom, Cond.selects RX2 yX2_copyFrom yX2_copyFrom, Cond.initialized RX2, Cond.code yX2_copyFrom cX2_copyFrom 2 none, Cond.fieldLink RX2 13 "DroopBoard$Feeder" "load" "I", Cond.fieldLink RX2 7 "DroopBoard$Feeder" "on" "Z", Cond.fieldLink RX2 17 "DroopBoard$Feeder" "sheds" "I", Cond.methodLink RX5 321 yX0_lack, Cond.instanceMethod yX0_lack, Cond.selects RX0 yX0_lack yX0_lack, Cond.code yX0_lack cX0_lack 2 (some .int), Cond.methodLink RX5 213 yX5_ticksUntilClosing]
def wsX5_mixedWithSet_r6 : List Cond := [Cond.instanceMethod yX5_ticksUntilClosing, Cond.selects RX5 yX5_ticksUntilClosing yX5_ticksUntilClosing, Cond.code yX5_ticksUntilClosing cX5_ticksUntilClosing 3 (some .int), Cond.methodLink RX5 219 yX0_tick, Cond.instanceMethod yX0_tick, Cond.selects RX0 yX0_tick yX0_tick, Cond.code yX0_tick cX0_tick 4 (some .int), Cond.methodLink RX0 100 yX0_lack, Cond.methodLink RX0 79 yX0_power, Cond.methodLink RX0 103 yX1_tick, Cond.instanceMethod yX1_tick, Cond.selects RX1 yX1_tick yX1_tick, Cond.code yX1_tick cX1_tick 3 none, Cond.methodLink RX1 50 yJ9_floorMod_7cf53, Cond.static yJ9_floorMod_7cf53, Cond.initialized RJ9, Cond.code yJ9_floorMod_7cf53 cJ9_floorMod_7cf53 3 (some .int), Cond.methodLink RX0 106 yX0_shed, Cond.instanceMethod yX0_shed, Cond.selects RX0 yX0_shed yX0_shed, Cond.code yX0_shed cX0_shed 2 none, Cond.fieldLink RX0 112 "DroopBoard$Feeder" "sheds" "I", Cond.methodLink RX0 109 yX0_trip, Cond.instanceMethod yX0_trip]
def wsX5_mixedWithSet_r7 : List Cond := [Cond.selects RX0 yX0_trip yX0_trip, Cond.code yX0_trip cX0_trip 4 (some .int), Cond.fieldLink RX0 115 "DroopBoard$Diesel" "overloaded" "I", Cond.fieldLink RX0 118 "DroopBoard$Diesel" "driven" "I", Cond.fieldLink RX0 124 "DroopBoard$Diesel" "trips" "I", Cond.methodLink RX0 121 yX1_openBreaker, Cond.instanceMethod yX1_openBreaker, Cond.selects RX1 yX1_openBreaker yX1_openBreaker, Cond.code yX1_openBreaker cX1_openBreaker 1 none, Cond.methodLink RX1 41 yX1_beginAnew, Cond.instanceMethod yX1_beginAnew, Cond.selects RX1 yX1_beginAnew yX1_beginAnew, Cond.code yX1_beginAnew cX1_beginAnew 1 none, Cond.methodLink RX5 216 yX5_speedForFairShare, Cond.instanceMethod yX5_speedForFairShare, Cond.selects RX5 yX5_speedForFairShare yX5_speedForFairShare, Cond.code yX5_speedForFairShare cX5_speedForFairShare 8 (some .int), Cond.methodLink RX5 331 Lib.Math.abs.name, Cond.methodLink RX5 222 yX0_ratingsClosed, Cond.instanceMethod yX0_ratingsClosed, Cond.selects RX0 yX0_ratingsClosed yX0_ratingsClosed, Cond.code yX0_ratingsClosed cX0_ratingsClosed 3 (some .int), Cond.fieldLink RX0 131 "DroopBoard$Diesel" "rating" "I", Cond.methodLink RX5 225 yX0_demand]
def wsX5_mixedWithSet : List Cond := .code yX5_mixedWithSet cX5_mixedWithSet 7 (some .long) :: ((wsX5_mixedWithSet_r1 ++ (wsX5_mixedWithSet_r2 ++ (wsX5_mixedWithSet_r3 ++ (wsX5_mixedWithSet_r4 ++ (wsX5_mixedWithSet_r5 ++ (wsX5_mixedWithSet_r6 ++ wsX5_mixedWithSet_r7)))))) ++ wsX50 ++ wsX00 ++ wsX10 ++ wsX20)
def wsX5_bitsOfDouble : List Cond := .code yX5_bitsOfDouble cX5_bitsOfDouble 6 (some .long) :: ([.constantDouble RX5 336 (4611686018427387904), .constantDouble RX5 338 (4841369599423283200)])
def wsX5_bitsOfFloat : List Cond := .code yX5_bitsOfFloat cX5_bitsOfFloat 4 (some .int) :: ([.constantFloat RX5 340 (1258291200)])
def wsX5_digest_r1 : List Cond := [Cond.constantLong RX5 231 (3701), Cond.fieldLink RX5 10 "DroopBoard" "board" "LDroopBoard$Board;", Cond.fieldLink RX5 148 "DroopBoard$Board" "settings" "[I", Cond.fieldLink RX5 183 "DroopBoard" "hasSnapshot" "Z", Cond.fieldLink RX5 32 "DroopBoard" "text" "LDroopBoard$OrderText;", Cond.fieldLink RX5 159 "DroopBoard$OrderText" "length" "I", Cond.methodLink RX5 206 yX5_tellCount, Cond.instanceMethod yX5_tellCount, Cond.selects RX5 yX5_tellCount yX5_tellCount, Cond.initialized RX5, Cond.code yX5_tellCount cX5_tellCount 2 (some .int), Cond.fieldLink RX5 186 "DroopBoard$Board" "ticks" "I", Cond.fieldLink RX5 228 "DroopBoard$Board" "energy" "I", Cond.fieldLink RX5 25 "DroopBoard" "history" "LDroopBoard$History;", Cond.fieldLink RX5 191 "DroopBoard$History" "size" "I", Cond.methodLink RX5 315 yX0_frequencyDownwards, Cond.instanceMethod yX0_frequencyDownwards, Cond.selects RX0 yX0_frequencyDownwards yX0_frequencyDownwards, Cond.initialized RX0, Cond.code yX0_frequencyDownwards cX0_frequencyDownwards 3 (some .int), Cond.methodLink RX0 49 yX0_alive, Cond.instanceMethod yX0_alive, Cond.selects RX0 yX0_alive yX0_alive, Cond.code yX0_alive cX0_alive 2 (some .boolean)]
def wsX5_digest_r2 : List Cond := [Cond.fieldLink RX0 11 "DroopBoard$Board" "diesels" "[LDroopBoard$Diesel;", Cond.fieldLink RX0 45 "DroopBoard$Diesel" "closed" "Z", Cond.methodLink RX0 63 yX0_demand, Cond.instanceMethod yX0_demand, Cond.selects RX0 yX0_demand yX0_demand, Cond.code yX0_demand cX0_demand 3 (some .int), Cond.fieldLink RX0 19 "DroopBoard$Board" "feeders" "[LDroopBoard$Feeder;", Cond.fieldLink RX0 53 "DroopBoard$Feeder" "on" "Z", Cond.fieldLink RX0 56 "DroopBoard$Feeder" "load" "I", Cond.methodLink RX0 67 yX0_total, Cond.instanceMethod yX0_total, Cond.selects RX0 yX0_total yX0_total, Cond.code yX0_total cX0_total 4 (some .int), Cond.methodLink RX0 59 yX1_gives, Cond.instanceMethod yX1_gives, Cond.selects RX1 yX1_gives yX1_gives, Cond.initialized RX1, Cond.code yX1_gives cX1_gives 2 (some .int), Cond.fieldLink RX1 23 "DroopBoard$Diesel" "closed" "Z", Cond.fieldLink RX1 7 "DroopBoard$Diesel" "droop" "I", Cond.fieldLink RX1 13 "DroopBoard$Diesel" "speed" "I", Cond.fieldLink RX1 16 "DroopBoard$Diesel" "rating" "I", Cond.methodLink RX5 105 yX0_frequency, Cond.instanceMethod yX0_frequency]
def wsX5_digest_r3 : List Cond := [Cond.selects RX0 yX0_frequency yX0_frequency, Cond.code yX0_frequency cX0_frequency 6 (some .int), Cond.methodLink RX5 225 yX0_demand, Cond.methodLink RX5 318 yX0_powers, Cond.instanceMethod yX0_powers, Cond.selects RX0 yX0_powers yX0_powers, Cond.code yX0_powers cX0_powers 4 (some .int), Cond.methodLink RX0 79 yX0_power, Cond.instanceMethod yX0_power, Cond.selects RX0 yX0_power yX0_power, Cond.code yX0_power cX0_power 4 (some .int), Cond.methodLink RX0 73 Lib.Math.max.name, Cond.static Lib.Math.max.name, Cond.initialized "java/lang/Math", Cond.code Lib.Math.max.name Lib.Math.max.code 2 (some .int), Cond.methodLink RX0 70 yX0_lowestClosed, Cond.instanceMethod yX0_lowestClosed, Cond.selects RX0 yX0_lowestClosed yX0_lowestClosed, Cond.code yX0_lowestClosed cX0_lowestClosed 2 (some .int), Cond.methodLink RX5 321 yX0_lack, Cond.instanceMethod yX0_lack, Cond.selects RX0 yX0_lack yX0_lack, Cond.code yX0_lack cX0_lack 2 (some .int), Cond.methodLink RX5 84 yX0_running]
def wsX5_digest_r4 : List Cond := [Cond.instanceMethod yX0_running, Cond.selects RX0 yX0_running yX0_running, Cond.code yX0_running cX0_running 3 (some .int), Cond.fieldLink RX0 82 "DroopBoard$Diesel" "runs" "Z", Cond.static yX5_oneIf, Cond.code yX5_oneIf cX5_oneIf 1 (some .int), Cond.methodLink RX5 324 yX0_closedBreakers, Cond.instanceMethod yX0_closedBreakers, Cond.selects RX0 yX0_closedBreakers yX0_closedBreakers, Cond.code yX0_closedBreakers cX0_closedBreakers 3 (some .int), Cond.methodLink RX5 327 yX0_trips, Cond.instanceMethod yX0_trips, Cond.selects RX0 yX0_trips yX0_trips, Cond.code yX0_trips cX0_trips 3 (some .int), Cond.fieldLink RX0 124 "DroopBoard$Diesel" "trips" "I", Cond.methodLink RX5 329 yX0_sheds, Cond.instanceMethod yX0_sheds, Cond.selects RX0 yX0_sheds yX0_sheds, Cond.code yX0_sheds cX0_sheds 3 (some .int), Cond.fieldLink RX0 112 "DroopBoard$Feeder" "sheds" "I", Cond.methodLink RX5 233 yX5_mixed, Cond.static yX5_mixed, Cond.code yX5_mixed cX5_mixed 4 (some .long), Cond.constantLong RX5 263 (31)]
def wsX5_digest_r5 : List Cond := [Cond.methodLink RX5 237 yX5_mixedWithSet, Cond.instanceMethod yX5_mixedWithSet, Cond.selects RX5 yX5_mixedWithSet yX5_mixedWithSet, Cond.code yX5_mixedWithSet cX5_mixedWithSet 7 (some .long), Cond.methodLink RX5 199 yX5_tellOfSet, Cond.instanceMethod yX5_tellOfSet, Cond.selects RX5 yX5_tellOfSet yX5_tellOfSet, Cond.code yX5_tellOfSet cX5_tellOfSet 4 (some .int), Cond.fieldLink RX5 44 "DroopBoard$Board" "diesels" "[LDroopBoard$Diesel;", Cond.fieldLink RX5 65 "DroopBoard$Diesel" "rating" "I", Cond.fieldLink RX5 69 "DroopBoard$Diesel" "droop" "I", Cond.fieldLink RX5 72 "DroopBoard$Diesel" "speed" "I", Cond.fieldLink RX5 48 "DroopBoard$Diesel" "runs" "Z", Cond.fieldLink RX5 108 "DroopBoard$Diesel" "closed" "Z", Cond.fieldLink RX5 296 "DroopBoard$Diesel" "phase" "I", Cond.fieldLink RX5 302 "DroopBoard$Diesel" "overloaded" "I", Cond.fieldLink RX5 305 "DroopBoard$Diesel" "driven" "I", Cond.fieldLink RX5 308 "DroopBoard$Diesel" "energy" "I", Cond.fieldLink RX5 309 "DroopBoard$Diesel" "trips" "I", Cond.methodLink RX5 131 yX5_oneIf, Cond.methodLink RX5 293 yX0_power, Cond.methodLink RX5 299 yX1_lamps, Cond.instanceMethod yX1_lamps, Cond.selects RX1 yX1_lamps yX1_lamps]
def wsX5_digest_r6 : List Cond := [Cond.code yX1_lamps cX1_lamps 1 (some .int), Cond.fieldLink RX1 26 "DroopBoard$Diesel" "phase" "I", Cond.methodLink RX1 44 Lib.Math.min.name, Cond.static Lib.Math.min.name, Cond.code Lib.Math.min.name Lib.Math.min.code 2 (some .int), Cond.methodLink RX5 96 yX0_whyNotClosed, Cond.instanceMethod yX0_whyNotClosed, Cond.selects RX0 yX0_whyNotClosed yX0_whyNotClosed, Cond.code yX0_whyNotClosed cX0_whyNotClosed 3 (some .int), Cond.fieldLink RX0 85 "DroopBoard$Diesel" "speed" "I", Cond.methodLink RX0 91 Lib.Math.abs.name, Cond.static Lib.Math.abs.name, Cond.code Lib.Math.abs.name Lib.Math.abs.code 1 (some .int), Cond.fieldLink RX0 23 "DroopBoard$Board" "settings" "[I", Cond.methodLink RX0 88 yX0_frequency, Cond.methodLink RX0 94 yX1_lamps, Cond.methodLink RX5 209 yX5_tellIfSpeed, Cond.instanceMethod yX5_tellIfSpeed, Cond.selects RX5 yX5_tellIfSpeed yX5_tellIfSpeed, Cond.code yX5_tellIfSpeed cX5_tellIfSpeed 5 (some .int), Cond.fieldLink RX5 16 "DroopBoard" "trial" "LDroopBoard$Board;", Cond.methodLink RX5 180 yX0_copyFrom, Cond.instanceMethod yX0_copyFrom, Cond.selects RX0 yX0_copyFrom yX0_copyFrom]
def wsX5_digest_r7 : List Cond := [Cond.code yX0_copyFrom cX0_copyFrom 3 none, Cond.fieldLink RX0 38 "DroopBoard$Board" "ticks" "I", Cond.fieldLink RX0 42 "DroopBoard$Board" "energy" "I", Cond.methodLink RX0 31 yX1_copyFrom, Cond.instanceMethod yX1_copyFrom, Cond.selects RX1 yX1_copyFrom yX1_copyFrom, Cond.code yX1_copyFrom cX1_copyFrom 2 none, Cond.fieldLink RX1 19 "DroopBoard$Diesel" "runs" "Z", Cond.fieldLink RX1 29 "DroopBoard$Diesel" "overloaded" "I", Cond.fieldLink RX1 32 "DroopBoard$Diesel" "driven" "I", Cond.fieldLink RX1 35 "DroopBoard$Diesel" "energy" "I", Cond.fieldLink RX1 38 "DroopBoard$Diesel" "trips" "I", Cond.methodLink RX0 35 yX2_copyFrom, Cond.instanceMethod yX2_copyFrom, Cond.selects RX2 yX2_copyFrom yX2_copyFrom, Cond.initialized RX2, Cond.code yX2_copyFrom cX2_copyFrom 2 none, Cond.fieldLink RX2 13 "DroopBoard$Feeder" "load" "I", Cond.fieldLink RX2 7 "DroopBoard$Feeder" "on" "Z", Cond.fieldLink RX2 17 "DroopBoard$Feeder" "sheds" "I", Cond.methodLink RX5 213 yX5_ticksUntilClosing, Cond.instanceMethod yX5_ticksUntilClosing, Cond.selects RX5 yX5_ticksUntilClosing yX5_ticksUntilClosing, Cond.code yX5_ticksUntilClosing cX5_ticksUntilClosing 3 (some .int)]
def wsX5_digest_r8 : List Cond := [Cond.methodLink RX5 219 yX0_tick, Cond.instanceMethod yX0_tick, Cond.selects RX0 yX0_tick yX0_tick, Cond.code yX0_tick cX0_tick 4 (some .int), Cond.methodLink RX0 100 yX0_lack, Cond.methodLink RX0 103 yX1_tick, Cond.instanceMethod yX1_tick, Cond.selects RX1 yX1_tick yX1_tick, Cond.code yX1_tick cX1_tick 3 none, Cond.methodLink RX1 50 yJ9_floorMod_7cf53, Cond.static yJ9_floorMod_7cf53, Cond.initialized RJ9, Cond.code yJ9_floorMod_7cf53 cJ9_floorMod_7cf53 3 (some .int), Cond.methodLink RX0 106 yX0_shed, Cond.instanceMethod yX0_shed, Cond.selects RX0 yX0_shed yX0_shed, Cond.code yX0_shed cX0_shed 2 none, Cond.methodLink RX0 109 yX0_trip, Cond.instanceMethod yX0_trip, Cond.selects RX0 yX0_trip yX0_trip, Cond.code yX0_trip cX0_trip 4 (some .int), Cond.fieldLink RX0 115 "DroopBoard$Diesel" "overloaded" "I", Cond.fieldLink RX0 118 "DroopBoard$Diesel" "driven" "I", Cond.methodLink RX0 121 yX1_openBreaker]
def wsX5_digest_r9 : List Cond := [Cond.instanceMethod yX1_openBreaker, Cond.selects RX1 yX1_openBreaker yX1_openBreaker, Cond.code yX1_openBreaker cX1_openBreaker 1 none, Cond.methodLink RX1 41 yX1_beginAnew, Cond.instanceMethod yX1_beginAnew, Cond.selects RX1 yX1_beginAnew yX1_beginAnew, Cond.code yX1_beginAnew cX1_beginAnew 1 none, Cond.methodLink RX5 216 yX5_speedForFairShare, Cond.instanceMethod yX5_speedForFairShare, Cond.selects RX5 yX5_speedForFairShare yX5_speedForFairShare, Cond.code yX5_speedForFairShare cX5_speedForFairShare 8 (some .int), Cond.methodLink RX5 331 Lib.Math.abs.name, Cond.methodLink RX5 222 yX0_ratingsClosed, Cond.instanceMethod yX0_ratingsClosed, Cond.selects RX0 yX0_ratingsClosed yX0_ratingsClosed, Cond.code yX0_ratingsClosed cX0_ratingsClosed 3 (some .int), Cond.fieldLink RX0 131 "DroopBoard$Diesel" "rating" "I", Cond.methodLink RX5 203 yX5_tellOfFeeder, Cond.instanceMethod yX5_tellOfFeeder, Cond.selects RX5 yX5_tellOfFeeder yX5_tellOfFeeder, Cond.code yX5_tellOfFeeder cX5_tellOfFeeder 3 (some .int), Cond.fieldLink RX5 119 "DroopBoard$Board" "feeders" "[LDroopBoard$Feeder;", Cond.fieldLink RX5 123 "DroopBoard$Feeder" "load" "I", Cond.fieldLink RX5 128 "DroopBoard$Feeder" "on" "Z"]
def wsX5_digest_r10 : List Cond := [Cond.fieldLink RX5 312 "DroopBoard$Feeder" "sheds" "I", Cond.methodLink RX5 241 yX5_nextTrip, Cond.instanceMethod yX5_nextTrip, Cond.selects RX5 yX5_nextTrip yX5_nextTrip, Cond.code yX5_nextTrip cX5_nextTrip 2 (some .int), Cond.methodLink RX5 244 yX5_loadShare, Cond.instanceMethod yX5_loadShare, Cond.selects RX5 yX5_loadShare yX5_loadShare, Cond.code yX5_loadShare cX5_loadShare 2 (some .double), Cond.methodLink RX5 248 yX5_bitsOfDouble, Cond.static yX5_bitsOfDouble, Cond.code yX5_bitsOfDouble cX5_bitsOfDouble 6 (some .long), Cond.constantDouble RX5 336 (4611686018427387904), Cond.constantDouble RX5 338 (4841369599423283200), Cond.methodLink RX5 252 yX5_meanPower, Cond.instanceMethod yX5_meanPower, Cond.selects RX5 yX5_meanPower yX5_meanPower, Cond.code yX5_meanPower cX5_meanPower 1 (some .float), Cond.methodLink RX5 256 yX5_bitsOfFloat, Cond.static yX5_bitsOfFloat, Cond.code yX5_bitsOfFloat cX5_bitsOfFloat 4 (some .int), Cond.constantFloat RX5 340 (1258291200), Cond.methodLink RX5 260 yX4_codeAt, Cond.instanceMethod yX4_codeAt]
def wsX5_digest_r11 : List Cond := [Cond.selects RX4 yX4_codeAt yX4_codeAt, Cond.initialized RX4, Cond.code yX4_codeAt cX4_codeAt 2 (some .int), Cond.fieldLink RX4 15 "DroopBoard$OrderText" "length" "I", Cond.fieldLink RX4 9 "DroopBoard$OrderText" "codes" "[I"]
def wsX5_digest : List Cond := .code yX5_digest cX5_digest 5 (some .long) :: ((wsX5_digest_r1 ++ (wsX5_digest_r2 ++ (wsX5_digest_r3 ++ (wsX5_digest_r4 ++ (wsX5_digest_r5 ++ (wsX5_digest_r6 ++ (wsX5_digest_r7 ++ (wsX5_digest_r8 ++ (wsX5_digest_r9 ++ (wsX5_digest_r10 ++ wsX5_digest_r11)))))))))) ++ wsX50 ++ wsX00 ++ wsX40 ++ wsX30 ++ wsX10 ++ wsX20)
def wsX6_put : List Cond := .code yX6_put cX6_put 4 none :: ([.fieldLink RX6 7 "DroopBoardModel" "row" "[I"] ++ wsX60)
def wsX6_init : List Cond := .code yX6_init cX6_init 2 none :: ([.methodLink RX6 1 objectInit, .instanceMethod objectInit, .code objectInit ⟨#[0xb1]⟩ 1 none, .arrayClass .int, .fieldLink RX6 7 "DroopBoardModel" "row" "[I", .fieldLink RX6 13 "DroopBoardModel" "saved" "[I", .fieldLink RX6 16 "DroopBoardModel" "snapshot" "[I", .fieldLink RX6 19 "DroopBoardModel" "aside" "[I", .fieldLink RX6 22 "DroopBoardModel" "powers" "[I", .fieldLink RX6 25 "DroopBoardModel" "buffer" "[I", .fieldLink RX6 28 "DroopBoardModel" "letter" "[I", .fieldLink RX6 31 "DroopBoardModel" "first" "[I", .fieldLink RX6 34 "DroopBoardModel" "second" "[I", .methodLink RX6 37 yX6_put, .instanceMethod yX6_put, .selects RX6 yX6_put yX6_put, .initialized RX6, .code yX6_put cX6_put 4 none] ++ wsX60)
def wsX6_thrown : List Cond := .code yX6_thrown cX6_thrown 1 (some .int) :: ([.fieldLink RX6 41 "DroopBoardModel" "thrown" "I"] ++ wsX60)
def wsX6_fails : List Cond := .code yX6_fails cX6_fails 2 (some .int) :: ([.fieldLink RX6 41 "DroopBoardModel" "thrown" "I"] ++ wsX60)
def wsX6_in : List Cond := .code yX6_in cX6_in 3 (some .boolean) :: ([])
def wsX6_isSet : List Cond := .code yX6_isSet cX6_isSet 1 (some .boolean) :: ([.methodLink RX6 45 yX6_in, .static yX6_in, .initialized RX6, .code yX6_in cX6_in 3 (some .boolean)])
def wsX6_isFeeder : List Cond := .code yX6_isFeeder cX6_isFeeder 1 (some .boolean) :: ([.methodLink RX6 45 yX6_in, .static yX6_in, .initialized RX6, .code yX6_in cX6_in 3 (some .boolean)])
def wsX6_of : List Cond := .code yX6_of cX6_of 3 (some .int) :: ([.fieldLink RX6 7 "DroopBoardModel" "row" "[I"] ++ wsX60)
def wsX6_ofLine : List Cond := .code yX6_ofLine cX6_ofLine 3 (some .int) :: ([.fieldLink RX6 7 "DroopBoardModel" "row" "[I"] ++ wsX60)
def wsX6_size : List Cond := .code yX6_size cX6_size 1 (some .int) :: ([])
def wsX6_save : List Cond := .code yX6_save cX6_save 2 none :: ([.fieldLink RX6 49 "DroopBoardModel" "savedMany" "I", .fieldLink RX6 13 "DroopBoardModel" "saved" "[I", .fieldLink RX6 7 "DroopBoardModel" "row" "[I"] ++ wsX60)
def wsX6_putAside : List Cond := .code yX6_putAside cX6_putAside 2 none :: ([.fieldLink RX6 19 "DroopBoardModel" "aside" "[I", .fieldLink RX6 7 "DroopBoardModel" "row" "[I"] ++ wsX60)
def wsX6_putBack : List Cond := .code yX6_putBack cX6_putBack 2 none :: ([.fieldLink RX6 7 "DroopBoardModel" "row" "[I", .fieldLink RX6 19 "DroopBoardModel" "aside" "[I"] ++ wsX60)
def wsX6_sum : List Cond := .code yX6_sum cX6_sum 2 (some .int) :: ([.methodLink RX6 52 yX6_of, .instanceMethod yX6_of, .selects RX6 yX6_of yX6_of, .initialized RX6, .code yX6_of cX6_of 3 (some .int), .fieldLink RX6 7 "DroopBoardModel" "row" "[I"] ++ wsX60)
def wsX6_isAlive : List Cond := .code yX6_isAlive cX6_isAlive 1 (some .boolean) :: ([.methodLink RX6 56 yX6_sum, .instanceMethod yX6_sum, .selects RX6 yX6_sum yX6_sum, .initialized RX6, .code yX6_sum cX6_sum 2 (some .int), .methodLink RX6 52 yX6_of, .instanceMethod yX6_of, .selects RX6 yX6_of yX6_of, .code yX6_of cX6_of 3 (some .int), .fieldLink RX6 7 "DroopBoardModel" "row" "[I"] ++ wsX60)
def wsX6_load : List Cond := .code yX6_load cX6_load 3 (some .int) :: ([.methodLink RX6 60 yX6_isAlive, .instanceMethod yX6_isAlive, .selects RX6 yX6_isAlive yX6_isAlive, .initialized RX6, .code yX6_isAlive cX6_isAlive 1 (some .boolean), .methodLink RX6 56 yX6_sum, .instanceMethod yX6_sum, .selects RX6 yX6_sum yX6_sum, .code yX6_sum cX6_sum 2 (some .int), .methodLink RX6 52 yX6_of, .instanceMethod yX6_of, .selects RX6 yX6_of yX6_of, .code yX6_of cX6_of 3 (some .int), .fieldLink RX6 7 "DroopBoardModel" "row" "[I", .methodLink RX6 64 yX6_ofLine, .instanceMethod yX6_ofLine, .selects RX6 yX6_ofLine yX6_ofLine, .code yX6_ofLine cX6_ofLine 3 (some .int)] ++ wsX60)
def wsX6_given : List Cond := .code yX6_given cX6_given 3 (some .int) :: ([.methodLink RX6 52 yX6_of, .instanceMethod yX6_of, .selects RX6 yX6_of yX6_of, .initialized RX6, .code yX6_of cX6_of 3 (some .int), .fieldLink RX6 7 "DroopBoardModel" "row" "[I"] ++ wsX60)
def wsX6_givenByAll : List Cond := .code yX6_givenByAll cX6_givenByAll 2 (some .int) :: ([.methodLink RX6 67 yX6_given, .instanceMethod yX6_given, .selects RX6 yX6_given yX6_given, .initialized RX6, .code yX6_given cX6_given 3 (some .int), .methodLink RX6 52 yX6_of, .instanceMethod yX6_of, .selects RX6 yX6_of yX6_of, .code yX6_of cX6_of 3 (some .int), .fieldLink RX6 7 "DroopBoardModel" "row" "[I"] ++ wsX60)
def wsX6_frequency_r1 : List Cond := [Cond.methodLink RX6 60 yX6_isAlive, Cond.instanceMethod yX6_isAlive, Cond.selects RX6 yX6_isAlive yX6_isAlive, Cond.initialized RX6, Cond.code yX6_isAlive cX6_isAlive 1 (some .boolean), Cond.methodLink RX6 56 yX6_sum, Cond.instanceMethod yX6_sum, Cond.selects RX6 yX6_sum yX6_sum, Cond.code yX6_sum cX6_sum 2 (some .int), Cond.methodLink RX6 52 yX6_of, Cond.instanceMethod yX6_of, Cond.selects RX6 yX6_of yX6_of, Cond.code yX6_of cX6_of 3 (some .int), Cond.fieldLink RX6 7 "DroopBoardModel" "row" "[I", Cond.methodLink RX6 70 yX6_load, Cond.instanceMethod yX6_load, Cond.selects RX6 yX6_load yX6_load, Cond.code yX6_load cX6_load 3 (some .int), Cond.methodLink RX6 64 yX6_ofLine, Cond.instanceMethod yX6_ofLine, Cond.selects RX6 yX6_ofLine yX6_ofLine, Cond.code yX6_ofLine cX6_ofLine 3 (some .int), Cond.methodLink RX6 74 yX6_givenByAll, Cond.instanceMethod yX6_givenByAll]
def wsX6_frequency_r2 : List Cond := [Cond.selects RX6 yX6_givenByAll yX6_givenByAll, Cond.code yX6_givenByAll cX6_givenByAll 2 (some .int), Cond.methodLink RX6 67 yX6_given, Cond.instanceMethod yX6_given, Cond.selects RX6 yX6_given yX6_given, Cond.code yX6_given cX6_given 3 (some .int)]
def wsX6_frequency : List Cond := .code yX6_frequency cX6_frequency 3 (some .int) :: ((wsX6_frequency_r1 ++ wsX6_frequency_r2) ++ wsX60)
def wsX6_find_r1 : List Cond := [Cond.fieldLink RX6 22 "DroopBoardModel" "powers" "[I", Cond.fieldLink RX6 80 "DroopBoardModel" "lack" "I", Cond.methodLink RX6 77 yX6_frequency, Cond.instanceMethod yX6_frequency, Cond.selects RX6 yX6_frequency yX6_frequency, Cond.initialized RX6, Cond.code yX6_frequency cX6_frequency 3 (some .int), Cond.methodLink RX6 60 yX6_isAlive, Cond.instanceMethod yX6_isAlive, Cond.selects RX6 yX6_isAlive yX6_isAlive, Cond.code yX6_isAlive cX6_isAlive 1 (some .boolean), Cond.methodLink RX6 56 yX6_sum, Cond.instanceMethod yX6_sum, Cond.selects RX6 yX6_sum yX6_sum, Cond.code yX6_sum cX6_sum 2 (some .int), Cond.methodLink RX6 52 yX6_of, Cond.instanceMethod yX6_of, Cond.selects RX6 yX6_of yX6_of, Cond.code yX6_of cX6_of 3 (some .int), Cond.fieldLink RX6 7 "DroopBoardModel" "row" "[I", Cond.methodLink RX6 70 yX6_load, Cond.instanceMethod yX6_load, Cond.selects RX6 yX6_load yX6_load, Cond.code yX6_load cX6_load 3 (some .int)]
def wsX6_find_r2 : List Cond := [Cond.methodLink RX6 64 yX6_ofLine, Cond.instanceMethod yX6_ofLine, Cond.selects RX6 yX6_ofLine yX6_ofLine, Cond.code yX6_ofLine cX6_ofLine 3 (some .int), Cond.methodLink RX6 74 yX6_givenByAll, Cond.instanceMethod yX6_givenByAll, Cond.selects RX6 yX6_givenByAll yX6_givenByAll, Cond.code yX6_givenByAll cX6_givenByAll 2 (some .int), Cond.methodLink RX6 67 yX6_given, Cond.instanceMethod yX6_given, Cond.selects RX6 yX6_given yX6_given, Cond.code yX6_given cX6_given 3 (some .int)]
def wsX6_find : List Cond := .code yX6_find cX6_find 5 none :: ((wsX6_find_r1 ++ wsX6_find_r2) ++ wsX60)
def wsX6_power_r1 : List Cond := [Cond.fieldLink RX6 22 "DroopBoardModel" "powers" "[I", Cond.methodLink RX6 83 yX6_find, Cond.instanceMethod yX6_find, Cond.selects RX6 yX6_find yX6_find, Cond.initialized RX6, Cond.code yX6_find cX6_find 5 none, Cond.fieldLink RX6 80 "DroopBoardModel" "lack" "I", Cond.methodLink RX6 77 yX6_frequency, Cond.instanceMethod yX6_frequency, Cond.selects RX6 yX6_frequency yX6_frequency, Cond.code yX6_frequency cX6_frequency 3 (some .int), Cond.methodLink RX6 60 yX6_isAlive, Cond.instanceMethod yX6_isAlive, Cond.selects RX6 yX6_isAlive yX6_isAlive, Cond.code yX6_isAlive cX6_isAlive 1 (some .boolean), Cond.methodLink RX6 56 yX6_sum, Cond.instanceMethod yX6_sum, Cond.selects RX6 yX6_sum yX6_sum, Cond.code yX6_sum cX6_sum 2 (some .int), Cond.methodLink RX6 52 yX6_of, Cond.instanceMethod yX6_of, Cond.selects RX6 yX6_of yX6_of, Cond.code yX6_of cX6_of 3 (some .int), Cond.fieldLink RX6 7 "DroopBoardModel" "row" "[I"]
def wsX6_power_r2 : List Cond := [Cond.methodLink RX6 70 yX6_load, Cond.instanceMethod yX6_load, Cond.selects RX6 yX6_load yX6_load, Cond.code yX6_load cX6_load 3 (some .int), Cond.methodLink RX6 64 yX6_ofLine, Cond.instanceMethod yX6_ofLine, Cond.selects RX6 yX6_ofLine yX6_ofLine, Cond.code yX6_ofLine cX6_ofLine 3 (some .int), Cond.methodLink RX6 74 yX6_givenByAll, Cond.instanceMethod yX6_givenByAll, Cond.selects RX6 yX6_givenByAll yX6_givenByAll, Cond.code yX6_givenByAll cX6_givenByAll 2 (some .int), Cond.methodLink RX6 67 yX6_given, Cond.instanceMethod yX6_given, Cond.selects RX6 yX6_given yX6_given, Cond.code yX6_given cX6_given 3 (some .int)]
def wsX6_power : List Cond := .code yX6_power cX6_power 2 (some .int) :: ((wsX6_power_r1 ++ wsX6_power_r2) ++ wsX60)
def wsX6_lamps : List Cond := .code yX6_lamps cX6_lamps 1 (some .int) :: ([])
def wsX6_reason_r1 : List Cond := [Cond.fieldLink RX6 7 "DroopBoardModel" "row" "[I", Cond.methodLink RX6 52 yX6_of, Cond.instanceMethod yX6_of, Cond.selects RX6 yX6_of yX6_of, Cond.initialized RX6, Cond.code yX6_of cX6_of 3 (some .int), Cond.methodLink RX6 60 yX6_isAlive, Cond.instanceMethod yX6_isAlive, Cond.selects RX6 yX6_isAlive yX6_isAlive, Cond.code yX6_isAlive cX6_isAlive 1 (some .boolean), Cond.methodLink RX6 56 yX6_sum, Cond.instanceMethod yX6_sum, Cond.selects RX6 yX6_sum yX6_sum, Cond.code yX6_sum cX6_sum 2 (some .int), Cond.methodLink RX6 77 yX6_frequency, Cond.instanceMethod yX6_frequency, Cond.selects RX6 yX6_frequency yX6_frequency, Cond.code yX6_frequency cX6_frequency 3 (some .int), Cond.methodLink RX6 70 yX6_load, Cond.instanceMethod yX6_load, Cond.selects RX6 yX6_load yX6_load, Cond.code yX6_load cX6_load 3 (some .int), Cond.methodLink RX6 64 yX6_ofLine, Cond.instanceMethod yX6_ofLine]
def wsX6_reason_r2 : List Cond := [Cond.selects RX6 yX6_ofLine yX6_ofLine, Cond.code yX6_ofLine cX6_ofLine 3 (some .int), Cond.methodLink RX6 74 yX6_givenByAll, Cond.instanceMethod yX6_givenByAll, Cond.selects RX6 yX6_givenByAll yX6_givenByAll, Cond.code yX6_givenByAll cX6_givenByAll 2 (some .int), Cond.methodLink RX6 67 yX6_given, Cond.instanceMethod yX6_given, Cond.selects RX6 yX6_given yX6_given, Cond.code yX6_given cX6_given 3 (some .int), Cond.methodLink RX6 86 yX6_size, Cond.static yX6_size, Cond.code yX6_size cX6_size 1 (some .int), Cond.methodLink RX6 89 yX6_lamps, Cond.static yX6_lamps, Cond.code yX6_lamps cX6_lamps 1 (some .int)]
def wsX6_reason : List Cond := .code yX6_reason cX6_reason 2 (some .int) :: ((wsX6_reason_r1 ++ wsX6_reason_r2) ++ wsX60)
def wsX6_rest : List Cond := .code yX6_rest cX6_rest 2 none :: ([.methodLink RX6 37 yX6_put, .instanceMethod yX6_put, .selects RX6 yX6_put yX6_put, .initialized RX6, .code yX6_put cX6_put 4 none, .fieldLink RX6 7 "DroopBoardModel" "row" "[I"] ++ wsX60)
def wsX6_turn : List Cond := .code yX6_turn cX6_turn 4 none :: ([.methodLink RX6 52 yX6_of, .instanceMethod yX6_of, .selects RX6 yX6_of yX6_of, .initialized RX6, .code yX6_of cX6_of 3 (some .int), .fieldLink RX6 7 "DroopBoardModel" "row" "[I", .methodLink RX6 37 yX6_put, .instanceMethod yX6_put, .selects RX6 yX6_put yX6_put, .code yX6_put cX6_put 4 none] ++ wsX60)
def wsX6_watch : List Cond := .code yX6_watch cX6_watch 3 none :: ([.fieldLink RX6 22 "DroopBoardModel" "powers" "[I", .methodLink RX6 52 yX6_of, .instanceMethod yX6_of, .selects RX6 yX6_of yX6_of, .initialized RX6, .code yX6_of cX6_of 3 (some .int), .fieldLink RX6 7 "DroopBoardModel" "row" "[I", .methodLink RX6 37 yX6_put, .instanceMethod yX6_put, .selects RX6 yX6_put yX6_put, .code yX6_put cX6_put 4 none] ++ wsX60)
def wsX6_shed : List Cond := .code yX6_shed cX6_shed 3 none :: ([.fieldLink RX6 7 "DroopBoardModel" "row" "[I", .methodLink RX6 64 yX6_ofLine, .instanceMethod yX6_ofLine, .selects RX6 yX6_ofLine yX6_ofLine, .initialized RX6, .code yX6_ofLine cX6_ofLine 3 (some .int)] ++ wsX60)
def wsX6_trip : List Cond := .code yX6_trip cX6_trip 3 (some .int) :: ([.fieldLink RX6 7 "DroopBoardModel" "row" "[I", .methodLink RX6 52 yX6_of, .instanceMethod yX6_of, .selects RX6 yX6_of yX6_of, .initialized RX6, .code yX6_of cX6_of 3 (some .int), .methodLink RX6 37 yX6_put, .instanceMethod yX6_put, .selects RX6 yX6_put yX6_put, .code yX6_put cX6_put 4 none, .methodLink RX6 92 yX6_rest, .instanceMethod yX6_rest, .selects RX6 yX6_rest yX6_rest, .code yX6_rest cX6_rest 2 none] ++ wsX60)
def wsX6_tick_r1 : List Cond := [Cond.fieldLink RX6 7 "DroopBoardModel" "row" "[I", Cond.fieldLink RX6 80 "DroopBoardModel" "lack" "I", Cond.fieldLink RX6 22 "DroopBoardModel" "powers" "[I", Cond.methodLink RX6 77 yX6_frequency, Cond.instanceMethod yX6_frequency, Cond.selects RX6 yX6_frequency yX6_frequency, Cond.initialized RX6, Cond.code yX6_frequency cX6_frequency 3 (some .int), Cond.methodLink RX6 60 yX6_isAlive, Cond.instanceMethod yX6_isAlive, Cond.selects RX6 yX6_isAlive yX6_isAlive, Cond.code yX6_isAlive cX6_isAlive 1 (some .boolean), Cond.methodLink RX6 56 yX6_sum, Cond.instanceMethod yX6_sum, Cond.selects RX6 yX6_sum yX6_sum, Cond.code yX6_sum cX6_sum 2 (some .int), Cond.methodLink RX6 52 yX6_of, Cond.instanceMethod yX6_of, Cond.selects RX6 yX6_of yX6_of, Cond.code yX6_of cX6_of 3 (some .int), Cond.methodLink RX6 70 yX6_load, Cond.instanceMethod yX6_load, Cond.selects RX6 yX6_load yX6_load, Cond.code yX6_load cX6_load 3 (some .int)]
def wsX6_tick_r2 : List Cond := [Cond.methodLink RX6 64 yX6_ofLine, Cond.instanceMethod yX6_ofLine, Cond.selects RX6 yX6_ofLine yX6_ofLine, Cond.code yX6_ofLine cX6_ofLine 3 (some .int), Cond.methodLink RX6 74 yX6_givenByAll, Cond.instanceMethod yX6_givenByAll, Cond.selects RX6 yX6_givenByAll yX6_givenByAll, Cond.code yX6_givenByAll cX6_givenByAll 2 (some .int), Cond.methodLink RX6 67 yX6_given, Cond.instanceMethod yX6_given, Cond.selects RX6 yX6_given yX6_given, Cond.code yX6_given cX6_given 3 (some .int), Cond.methodLink RX6 83 yX6_find, Cond.instanceMethod yX6_find, Cond.selects RX6 yX6_find yX6_find, Cond.code yX6_find cX6_find 5 none, Cond.methodLink RX6 37 yX6_put, Cond.instanceMethod yX6_put, Cond.selects RX6 yX6_put yX6_put, Cond.code yX6_put cX6_put 4 none, Cond.methodLink RX6 96 yX6_watch, Cond.instanceMethod yX6_watch, Cond.selects RX6 yX6_watch yX6_watch, Cond.code yX6_watch cX6_watch 3 none]
def wsX6_tick_r3 : List Cond := [Cond.methodLink RX6 99 yX6_turn, Cond.instanceMethod yX6_turn, Cond.selects RX6 yX6_turn yX6_turn, Cond.code yX6_turn cX6_turn 4 none, Cond.methodLink RX6 103 yX6_shed, Cond.instanceMethod yX6_shed, Cond.selects RX6 yX6_shed yX6_shed, Cond.code yX6_shed cX6_shed 3 none, Cond.methodLink RX6 106 yX6_trip, Cond.instanceMethod yX6_trip, Cond.selects RX6 yX6_trip yX6_trip, Cond.code yX6_trip cX6_trip 3 (some .int), Cond.methodLink RX6 92 yX6_rest, Cond.instanceMethod yX6_rest, Cond.selects RX6 yX6_rest yX6_rest, Cond.code yX6_rest cX6_rest 2 none]
def wsX6_tick : List Cond := .code yX6_tick cX6_tick 4 (some .int) :: ((wsX6_tick_r1 ++ (wsX6_tick_r2 ++ wsX6_tick_r3)) ++ wsX60)
def wsX6_runNow : List Cond := .code yX6_runNow cX6_runNow 2 (some .int) :: ([.methodLink RX6 37 yX6_put, .instanceMethod yX6_put, .selects RX6 yX6_put yX6_put, .initialized RX6, .code yX6_put cX6_put 4 none, .fieldLink RX6 7 "DroopBoardModel" "row" "[I", .methodLink RX6 92 yX6_rest, .instanceMethod yX6_rest, .selects RX6 yX6_rest yX6_rest, .code yX6_rest cX6_rest 2 none, .methodLink RX6 56 yX6_sum, .instanceMethod yX6_sum, .selects RX6 yX6_sum yX6_sum, .code yX6_sum cX6_sum 2 (some .int), .methodLink RX6 52 yX6_of, .instanceMethod yX6_of, .selects RX6 yX6_of yX6_of, .code yX6_of cX6_of 3 (some .int)] ++ wsX60)
def wsX6_haltNow : List Cond := .code yX6_haltNow cX6_haltNow 2 (some .int) :: ([.methodLink RX6 37 yX6_put, .instanceMethod yX6_put, .selects RX6 yX6_put yX6_put, .initialized RX6, .code yX6_put cX6_put 4 none, .fieldLink RX6 7 "DroopBoardModel" "row" "[I", .methodLink RX6 92 yX6_rest, .instanceMethod yX6_rest, .selects RX6 yX6_rest yX6_rest, .code yX6_rest cX6_rest 2 none, .methodLink RX6 56 yX6_sum, .instanceMethod yX6_sum, .selects RX6 yX6_sum yX6_sum, .code yX6_sum cX6_sum 2 (some .int), .methodLink RX6 52 yX6_of, .instanceMethod yX6_of, .selects RX6 yX6_of yX6_of, .code yX6_of cX6_of 3 (some .int)] ++ wsX60)
def wsX6_switchNow_r1 : List Cond := [Cond.methodLink RX6 37 yX6_put, Cond.instanceMethod yX6_put, Cond.selects RX6 yX6_put yX6_put, Cond.initialized RX6, Cond.code yX6_put cX6_put 4 none, Cond.fieldLink RX6 7 "DroopBoardModel" "row" "[I", Cond.methodLink RX6 92 yX6_rest, Cond.instanceMethod yX6_rest, Cond.selects RX6 yX6_rest yX6_rest, Cond.code yX6_rest cX6_rest 2 none, Cond.methodLink RX6 77 yX6_frequency, Cond.instanceMethod yX6_frequency, Cond.selects RX6 yX6_frequency yX6_frequency, Cond.code yX6_frequency cX6_frequency 3 (some .int), Cond.methodLink RX6 60 yX6_isAlive, Cond.instanceMethod yX6_isAlive, Cond.selects RX6 yX6_isAlive yX6_isAlive, Cond.code yX6_isAlive cX6_isAlive 1 (some .boolean), Cond.methodLink RX6 56 yX6_sum, Cond.instanceMethod yX6_sum, Cond.selects RX6 yX6_sum yX6_sum, Cond.code yX6_sum cX6_sum 2 (some .int), Cond.methodLink RX6 52 yX6_of, Cond.instanceMethod yX6_of]
def wsX6_switchNow_r2 : List Cond := [Cond.selects RX6 yX6_of yX6_of, Cond.code yX6_of cX6_of 3 (some .int), Cond.methodLink RX6 70 yX6_load, Cond.instanceMethod yX6_load, Cond.selects RX6 yX6_load yX6_load, Cond.code yX6_load cX6_load 3 (some .int), Cond.methodLink RX6 64 yX6_ofLine, Cond.instanceMethod yX6_ofLine, Cond.selects RX6 yX6_ofLine yX6_ofLine, Cond.code yX6_ofLine cX6_ofLine 3 (some .int), Cond.methodLink RX6 74 yX6_givenByAll, Cond.instanceMethod yX6_givenByAll, Cond.selects RX6 yX6_givenByAll yX6_givenByAll, Cond.code yX6_givenByAll cX6_givenByAll 2 (some .int), Cond.methodLink RX6 67 yX6_given, Cond.instanceMethod yX6_given, Cond.selects RX6 yX6_given yX6_given, Cond.code yX6_given cX6_given 3 (some .int)]
def wsX6_switchNow : List Cond := .code yX6_switchNow cX6_switchNow 3 (some .int) :: ((wsX6_switchNow_r1 ++ wsX6_switchNow_r2) ++ wsX60)
def wsX6_feederNow : List Cond := .code yX6_feederNow cX6_feederNow 4 (some .int) :: ([.fieldLink RX6 7 "DroopBoardModel" "row" "[I", .methodLink RX6 64 yX6_ofLine, .instanceMethod yX6_ofLine, .selects RX6 yX6_ofLine yX6_ofLine, .initialized RX6, .code yX6_ofLine cX6_ofLine 3 (some .int)] ++ wsX60)
def wsX6_passNow_r1 : List Cond := [Cond.methodLink RX6 109 yX6_tick, Cond.instanceMethod yX6_tick, Cond.selects RX6 yX6_tick yX6_tick, Cond.initialized RX6, Cond.code yX6_tick cX6_tick 4 (some .int), Cond.fieldLink RX6 7 "DroopBoardModel" "row" "[I", Cond.fieldLink RX6 80 "DroopBoardModel" "lack" "I", Cond.fieldLink RX6 22 "DroopBoardModel" "powers" "[I", Cond.methodLink RX6 77 yX6_frequency, Cond.instanceMethod yX6_frequency, Cond.selects RX6 yX6_frequency yX6_frequency, Cond.code yX6_frequency cX6_frequency 3 (some .int), Cond.methodLink RX6 60 yX6_isAlive, Cond.instanceMethod yX6_isAlive, Cond.selects RX6 yX6_isAlive yX6_isAlive, Cond.code yX6_isAlive cX6_isAlive 1 (some .boolean), Cond.methodLink RX6 56 yX6_sum, Cond.instanceMethod yX6_sum, Cond.selects RX6 yX6_sum yX6_sum, Cond.code yX6_sum cX6_sum 2 (some .int), Cond.methodLink RX6 52 yX6_of, Cond.instanceMethod yX6_of, Cond.selects RX6 yX6_of yX6_of, Cond.code yX6_of cX6_of 3 (some .int)]
def wsX6_passNow_r2 : List Cond := [Cond.methodLink RX6 70 yX6_load, Cond.instanceMethod yX6_load, Cond.selects RX6 yX6_load yX6_load, Cond.code yX6_load cX6_load 3 (some .int), Cond.methodLink RX6 64 yX6_ofLine, Cond.instanceMethod yX6_ofLine, Cond.selects RX6 yX6_ofLine yX6_ofLine, Cond.code yX6_ofLine cX6_ofLine 3 (some .int), Cond.methodLink RX6 74 yX6_givenByAll, Cond.instanceMethod yX6_givenByAll, Cond.selects RX6 yX6_givenByAll yX6_givenByAll, Cond.code yX6_givenByAll cX6_givenByAll 2 (some .int), Cond.methodLink RX6 67 yX6_given, Cond.instanceMethod yX6_given, Cond.selects RX6 yX6_given yX6_given, Cond.code yX6_given cX6_given 3 (some .int), Cond.methodLink RX6 83 yX6_find, Cond.instanceMethod yX6_find, Cond.selects RX6 yX6_find yX6_find, Cond.code yX6_find cX6_find 5 none, Cond.methodLink RX6 37 yX6_put, Cond.instanceMethod yX6_put, Cond.selects RX6 yX6_put yX6_put, Cond.code yX6_put cX6_put 4 none]
def wsX6_passNow_r3 : List Cond := [Cond.methodLink RX6 96 yX6_watch, Cond.instanceMethod yX6_watch, Cond.selects RX6 yX6_watch yX6_watch, Cond.code yX6_watch cX6_watch 3 none, Cond.methodLink RX6 99 yX6_turn, Cond.instanceMethod yX6_turn, Cond.selects RX6 yX6_turn yX6_turn, Cond.code yX6_turn cX6_turn 4 none, Cond.methodLink RX6 103 yX6_shed, Cond.instanceMethod yX6_shed, Cond.selects RX6 yX6_shed yX6_shed, Cond.code yX6_shed cX6_shed 3 none, Cond.methodLink RX6 106 yX6_trip, Cond.instanceMethod yX6_trip, Cond.selects RX6 yX6_trip yX6_trip, Cond.code yX6_trip cX6_trip 3 (some .int), Cond.methodLink RX6 92 yX6_rest, Cond.instanceMethod yX6_rest, Cond.selects RX6 yX6_rest yX6_rest, Cond.code yX6_rest cX6_rest 2 none]
def wsX6_passNow : List Cond := .code yX6_passNow cX6_passNow 4 (some .int) :: ((wsX6_passNow_r1 ++ (wsX6_passNow_r2 ++ wsX6_passNow_r3)) ++ wsX60)
def wsX6_speedNow : List Cond := .code yX6_speedNow cX6_speedNow 4 (some .int) :: ([.methodLink RX6 52 yX6_of, .instanceMethod yX6_of, .selects RX6 yX6_of yX6_of, .initialized RX6, .code yX6_of cX6_of 3 (some .int), .fieldLink RX6 7 "DroopBoardModel" "row" "[I", .methodLink RX6 37 yX6_put, .instanceMethod yX6_put, .selects RX6 yX6_put yX6_put, .code yX6_put cX6_put 4 none] ++ wsX60)
def wsX6_build_r1 : List Cond := [Cond.fieldLink RX6 41 "DroopBoardModel" "thrown" "I", Cond.methodLink RX6 112 yX6_isSet, Cond.static yX6_isSet, Cond.initialized RX6, Cond.code yX6_isSet cX6_isSet 1 (some .boolean), Cond.methodLink RX6 45 yX6_in, Cond.static yX6_in, Cond.code yX6_in cX6_in 3 (some .boolean), Cond.methodLink RX6 116 yX6_fails, Cond.instanceMethod yX6_fails, Cond.selects RX6 yX6_fails yX6_fails, Cond.code yX6_fails cX6_fails 2 (some .int), Cond.methodLink RX6 52 yX6_of, Cond.instanceMethod yX6_of, Cond.selects RX6 yX6_of yX6_of, Cond.code yX6_of cX6_of 3 (some .int), Cond.fieldLink RX6 7 "DroopBoardModel" "row" "[I", Cond.methodLink RX6 119 yX6_save, Cond.instanceMethod yX6_save, Cond.selects RX6 yX6_save yX6_save, Cond.code yX6_save cX6_save 2 none, Cond.fieldLink RX6 49 "DroopBoardModel" "savedMany" "I", Cond.fieldLink RX6 13 "DroopBoardModel" "saved" "[I", Cond.methodLink RX6 37 yX6_put]
def wsX6_build_r2 : List Cond := [Cond.instanceMethod yX6_put, Cond.selects RX6 yX6_put yX6_put, Cond.code yX6_put cX6_put 4 none]
def wsX6_build : List Cond := .code yX6_build cX6_build 5 (some .int) :: ((wsX6_build_r1 ++ wsX6_build_r2) ++ wsX60)
def wsX6_speed_r1 : List Cond := [Cond.fieldLink RX6 41 "DroopBoardModel" "thrown" "I", Cond.methodLink RX6 112 yX6_isSet, Cond.static yX6_isSet, Cond.initialized RX6, Cond.code yX6_isSet cX6_isSet 1 (some .boolean), Cond.methodLink RX6 45 yX6_in, Cond.static yX6_in, Cond.code yX6_in cX6_in 3 (some .boolean), Cond.methodLink RX6 116 yX6_fails, Cond.instanceMethod yX6_fails, Cond.selects RX6 yX6_fails yX6_fails, Cond.code yX6_fails cX6_fails 2 (some .int), Cond.methodLink RX6 119 yX6_save, Cond.instanceMethod yX6_save, Cond.selects RX6 yX6_save yX6_save, Cond.code yX6_save cX6_save 2 none, Cond.fieldLink RX6 49 "DroopBoardModel" "savedMany" "I", Cond.fieldLink RX6 13 "DroopBoardModel" "saved" "[I", Cond.fieldLink RX6 7 "DroopBoardModel" "row" "[I", Cond.methodLink RX6 122 yX6_speedNow, Cond.instanceMethod yX6_speedNow, Cond.selects RX6 yX6_speedNow yX6_speedNow, Cond.code yX6_speedNow cX6_speedNow 4 (some .int), Cond.methodLink RX6 52 yX6_of]
def wsX6_speed_r2 : List Cond := [Cond.instanceMethod yX6_of, Cond.selects RX6 yX6_of yX6_of, Cond.code yX6_of cX6_of 3 (some .int), Cond.methodLink RX6 37 yX6_put, Cond.instanceMethod yX6_put, Cond.selects RX6 yX6_put yX6_put, Cond.code yX6_put cX6_put 4 none]
def wsX6_speed : List Cond := .code yX6_speed cX6_speed 3 (some .int) :: ((wsX6_speed_r1 ++ wsX6_speed_r2) ++ wsX60)
def wsX6_canHalt : List Cond := .code yX6_canHalt cX6_canHalt 2 (some .boolean) :: ([.methodLink RX6 52 yX6_of, .instanceMethod yX6_of, .selects RX6 yX6_of yX6_of, .initialized RX6, .code yX6_of cX6_of 3 (some .int), .fieldLink RX6 7 "DroopBoardModel" "row" "[I"] ++ wsX60)
def wsX6_run_r1 : List Cond := [Cond.fieldLink RX6 41 "DroopBoardModel" "thrown" "I", Cond.methodLink RX6 112 yX6_isSet, Cond.static yX6_isSet, Cond.initialized RX6, Cond.code yX6_isSet cX6_isSet 1 (some .boolean), Cond.methodLink RX6 45 yX6_in, Cond.static yX6_in, Cond.code yX6_in cX6_in 3 (some .boolean), Cond.methodLink RX6 116 yX6_fails, Cond.instanceMethod yX6_fails, Cond.selects RX6 yX6_fails yX6_fails, Cond.code yX6_fails cX6_fails 2 (some .int), Cond.methodLink RX6 52 yX6_of, Cond.instanceMethod yX6_of, Cond.selects RX6 yX6_of yX6_of, Cond.code yX6_of cX6_of 3 (some .int), Cond.fieldLink RX6 7 "DroopBoardModel" "row" "[I", Cond.methodLink RX6 119 yX6_save, Cond.instanceMethod yX6_save, Cond.selects RX6 yX6_save yX6_save, Cond.code yX6_save cX6_save 2 none, Cond.fieldLink RX6 49 "DroopBoardModel" "savedMany" "I", Cond.fieldLink RX6 13 "DroopBoardModel" "saved" "[I", Cond.methodLink RX6 125 yX6_runNow]
def wsX6_run_r2 : List Cond := [Cond.instanceMethod yX6_runNow, Cond.selects RX6 yX6_runNow yX6_runNow, Cond.code yX6_runNow cX6_runNow 2 (some .int), Cond.methodLink RX6 37 yX6_put, Cond.instanceMethod yX6_put, Cond.selects RX6 yX6_put yX6_put, Cond.code yX6_put cX6_put 4 none, Cond.methodLink RX6 92 yX6_rest, Cond.instanceMethod yX6_rest, Cond.selects RX6 yX6_rest yX6_rest, Cond.code yX6_rest cX6_rest 2 none, Cond.methodLink RX6 56 yX6_sum, Cond.instanceMethod yX6_sum, Cond.selects RX6 yX6_sum yX6_sum, Cond.code yX6_sum cX6_sum 2 (some .int)]
def wsX6_run : List Cond := .code yX6_run cX6_run 2 (some .int) :: ((wsX6_run_r1 ++ wsX6_run_r2) ++ wsX60)
def wsX6_halt_r1 : List Cond := [Cond.fieldLink RX6 41 "DroopBoardModel" "thrown" "I", Cond.methodLink RX6 112 yX6_isSet, Cond.static yX6_isSet, Cond.initialized RX6, Cond.code yX6_isSet cX6_isSet 1 (some .boolean), Cond.methodLink RX6 45 yX6_in, Cond.static yX6_in, Cond.code yX6_in cX6_in 3 (some .boolean), Cond.methodLink RX6 116 yX6_fails, Cond.instanceMethod yX6_fails, Cond.selects RX6 yX6_fails yX6_fails, Cond.code yX6_fails cX6_fails 2 (some .int), Cond.methodLink RX6 128 yX6_canHalt, Cond.instanceMethod yX6_canHalt, Cond.selects RX6 yX6_canHalt yX6_canHalt, Cond.code yX6_canHalt cX6_canHalt 2 (some .boolean), Cond.methodLink RX6 52 yX6_of, Cond.instanceMethod yX6_of, Cond.selects RX6 yX6_of yX6_of, Cond.code yX6_of cX6_of 3 (some .int), Cond.fieldLink RX6 7 "DroopBoardModel" "row" "[I", Cond.methodLink RX6 119 yX6_save, Cond.instanceMethod yX6_save, Cond.selects RX6 yX6_save yX6_save]
def wsX6_halt_r2 : List Cond := [Cond.code yX6_save cX6_save 2 none, Cond.fieldLink RX6 49 "DroopBoardModel" "savedMany" "I", Cond.fieldLink RX6 13 "DroopBoardModel" "saved" "[I", Cond.methodLink RX6 131 yX6_haltNow, Cond.instanceMethod yX6_haltNow, Cond.selects RX6 yX6_haltNow yX6_haltNow, Cond.code yX6_haltNow cX6_haltNow 2 (some .int), Cond.methodLink RX6 37 yX6_put, Cond.instanceMethod yX6_put, Cond.selects RX6 yX6_put yX6_put, Cond.code yX6_put cX6_put 4 none, Cond.methodLink RX6 92 yX6_rest, Cond.instanceMethod yX6_rest, Cond.selects RX6 yX6_rest yX6_rest, Cond.code yX6_rest cX6_rest 2 none, Cond.methodLink RX6 56 yX6_sum, Cond.instanceMethod yX6_sum, Cond.selects RX6 yX6_sum yX6_sum, Cond.code yX6_sum cX6_sum 2 (some .int)]
def wsX6_halt : List Cond := .code yX6_halt cX6_halt 2 (some .int) :: ((wsX6_halt_r1 ++ wsX6_halt_r2) ++ wsX60)
def wsX6_close_r1 : List Cond := [Cond.fieldLink RX6 41 "DroopBoardModel" "thrown" "I", Cond.methodLink RX6 112 yX6_isSet, Cond.static yX6_isSet, Cond.initialized RX6, Cond.code yX6_isSet cX6_isSet 1 (some .boolean), Cond.methodLink RX6 45 yX6_in, Cond.static yX6_in, Cond.code yX6_in cX6_in 3 (some .boolean), Cond.methodLink RX6 116 yX6_fails, Cond.instanceMethod yX6_fails, Cond.selects RX6 yX6_fails yX6_fails, Cond.code yX6_fails cX6_fails 2 (some .int), Cond.methodLink RX6 134 yX6_reason, Cond.instanceMethod yX6_reason, Cond.selects RX6 yX6_reason yX6_reason, Cond.code yX6_reason cX6_reason 2 (some .int), Cond.fieldLink RX6 7 "DroopBoardModel" "row" "[I", Cond.methodLink RX6 52 yX6_of, Cond.instanceMethod yX6_of, Cond.selects RX6 yX6_of yX6_of, Cond.code yX6_of cX6_of 3 (some .int), Cond.methodLink RX6 60 yX6_isAlive, Cond.instanceMethod yX6_isAlive, Cond.selects RX6 yX6_isAlive yX6_isAlive]
def wsX6_close_r2 : List Cond := [Cond.code yX6_isAlive cX6_isAlive 1 (some .boolean), Cond.methodLink RX6 56 yX6_sum, Cond.instanceMethod yX6_sum, Cond.selects RX6 yX6_sum yX6_sum, Cond.code yX6_sum cX6_sum 2 (some .int), Cond.methodLink RX6 77 yX6_frequency, Cond.instanceMethod yX6_frequency, Cond.selects RX6 yX6_frequency yX6_frequency, Cond.code yX6_frequency cX6_frequency 3 (some .int), Cond.methodLink RX6 70 yX6_load, Cond.instanceMethod yX6_load, Cond.selects RX6 yX6_load yX6_load, Cond.code yX6_load cX6_load 3 (some .int), Cond.methodLink RX6 64 yX6_ofLine, Cond.instanceMethod yX6_ofLine, Cond.selects RX6 yX6_ofLine yX6_ofLine, Cond.code yX6_ofLine cX6_ofLine 3 (some .int), Cond.methodLink RX6 74 yX6_givenByAll, Cond.instanceMethod yX6_givenByAll, Cond.selects RX6 yX6_givenByAll yX6_givenByAll, Cond.code yX6_givenByAll cX6_givenByAll 2 (some .int), Cond.methodLink RX6 67 yX6_given, Cond.instanceMethod yX6_given, Cond.selects RX6 yX6_given yX6_given]
def wsX6_close_r3 : List Cond := [Cond.code yX6_given cX6_given 3 (some .int), Cond.methodLink RX6 86 yX6_size, Cond.static yX6_size, Cond.code yX6_size cX6_size 1 (some .int), Cond.methodLink RX6 89 yX6_lamps, Cond.static yX6_lamps, Cond.code yX6_lamps cX6_lamps 1 (some .int), Cond.methodLink RX6 119 yX6_save, Cond.instanceMethod yX6_save, Cond.selects RX6 yX6_save yX6_save, Cond.code yX6_save cX6_save 2 none, Cond.fieldLink RX6 49 "DroopBoardModel" "savedMany" "I", Cond.fieldLink RX6 13 "DroopBoardModel" "saved" "[I", Cond.methodLink RX6 137 yX6_switchNow, Cond.instanceMethod yX6_switchNow, Cond.selects RX6 yX6_switchNow yX6_switchNow, Cond.code yX6_switchNow cX6_switchNow 3 (some .int), Cond.methodLink RX6 37 yX6_put, Cond.instanceMethod yX6_put, Cond.selects RX6 yX6_put yX6_put, Cond.code yX6_put cX6_put 4 none, Cond.methodLink RX6 92 yX6_rest, Cond.instanceMethod yX6_rest, Cond.selects RX6 yX6_rest yX6_rest]
def wsX6_close_r4 : List Cond := [Cond.code yX6_rest cX6_rest 2 none]
def wsX6_close : List Cond := .code yX6_close cX6_close 2 (some .int) :: ((wsX6_close_r1 ++ (wsX6_close_r2 ++ (wsX6_close_r3 ++ wsX6_close_r4))) ++ wsX60)
def wsX6_open_r1 : List Cond := [Cond.fieldLink RX6 41 "DroopBoardModel" "thrown" "I", Cond.methodLink RX6 112 yX6_isSet, Cond.static yX6_isSet, Cond.initialized RX6, Cond.code yX6_isSet cX6_isSet 1 (some .boolean), Cond.methodLink RX6 45 yX6_in, Cond.static yX6_in, Cond.code yX6_in cX6_in 3 (some .boolean), Cond.methodLink RX6 116 yX6_fails, Cond.instanceMethod yX6_fails, Cond.selects RX6 yX6_fails yX6_fails, Cond.code yX6_fails cX6_fails 2 (some .int), Cond.methodLink RX6 52 yX6_of, Cond.instanceMethod yX6_of, Cond.selects RX6 yX6_of yX6_of, Cond.code yX6_of cX6_of 3 (some .int), Cond.fieldLink RX6 7 "DroopBoardModel" "row" "[I", Cond.methodLink RX6 119 yX6_save, Cond.instanceMethod yX6_save, Cond.selects RX6 yX6_save yX6_save, Cond.code yX6_save cX6_save 2 none, Cond.fieldLink RX6 49 "DroopBoardModel" "savedMany" "I", Cond.fieldLink RX6 13 "DroopBoardModel" "saved" "[I", Cond.methodLink RX6 137 yX6_switchNow]
def wsX6_open_r2 : List Cond := [Cond.instanceMethod yX6_switchNow, Cond.selects RX6 yX6_switchNow yX6_switchNow, Cond.code yX6_switchNow cX6_switchNow 3 (some .int), Cond.methodLink RX6 37 yX6_put, Cond.instanceMethod yX6_put, Cond.selects RX6 yX6_put yX6_put, Cond.code yX6_put cX6_put 4 none, Cond.methodLink RX6 92 yX6_rest, Cond.instanceMethod yX6_rest, Cond.selects RX6 yX6_rest yX6_rest, Cond.code yX6_rest cX6_rest 2 none, Cond.methodLink RX6 77 yX6_frequency, Cond.instanceMethod yX6_frequency, Cond.selects RX6 yX6_frequency yX6_frequency, Cond.code yX6_frequency cX6_frequency 3 (some .int), Cond.methodLink RX6 60 yX6_isAlive, Cond.instanceMethod yX6_isAlive, Cond.selects RX6 yX6_isAlive yX6_isAlive, Cond.code yX6_isAlive cX6_isAlive 1 (some .boolean), Cond.methodLink RX6 56 yX6_sum, Cond.instanceMethod yX6_sum, Cond.selects RX6 yX6_sum yX6_sum, Cond.code yX6_sum cX6_sum 2 (some .int), Cond.methodLink RX6 70 yX6_load]
def wsX6_open_r3 : List Cond := [Cond.instanceMethod yX6_load, Cond.selects RX6 yX6_load yX6_load, Cond.code yX6_load cX6_load 3 (some .int), Cond.methodLink RX6 64 yX6_ofLine, Cond.instanceMethod yX6_ofLine, Cond.selects RX6 yX6_ofLine yX6_ofLine, Cond.code yX6_ofLine cX6_ofLine 3 (some .int), Cond.methodLink RX6 74 yX6_givenByAll, Cond.instanceMethod yX6_givenByAll, Cond.selects RX6 yX6_givenByAll yX6_givenByAll, Cond.code yX6_givenByAll cX6_givenByAll 2 (some .int), Cond.methodLink RX6 67 yX6_given, Cond.instanceMethod yX6_given, Cond.selects RX6 yX6_given yX6_given, Cond.code yX6_given cX6_given 3 (some .int)]
def wsX6_open : List Cond := .code yX6_open cX6_open 2 (some .int) :: ((wsX6_open_r1 ++ (wsX6_open_r2 ++ wsX6_open_r3)) ++ wsX60)
def wsX6_load_ : List Cond := .code yX6_load_ cX6_load_ 4 (some .int) :: ([.fieldLink RX6 41 "DroopBoardModel" "thrown" "I", .fieldLink RX6 7 "DroopBoardModel" "row" "[I", .methodLink RX6 140 yX6_isFeeder, .static yX6_isFeeder, .initialized RX6, .code yX6_isFeeder cX6_isFeeder 1 (some .boolean), .methodLink RX6 45 yX6_in, .static yX6_in, .code yX6_in cX6_in 3 (some .boolean), .methodLink RX6 116 yX6_fails, .instanceMethod yX6_fails, .selects RX6 yX6_fails yX6_fails, .code yX6_fails cX6_fails 2 (some .int), .methodLink RX6 119 yX6_save, .instanceMethod yX6_save, .selects RX6 yX6_save yX6_save, .code yX6_save cX6_save 2 none, .fieldLink RX6 49 "DroopBoardModel" "savedMany" "I", .fieldLink RX6 13 "DroopBoardModel" "saved" "[I", .methodLink RX6 64 yX6_ofLine, .instanceMethod yX6_ofLine, .selects RX6 yX6_ofLine yX6_ofLine, .code yX6_ofLine cX6_ofLine 3 (some .int)] ++ wsX60)
def wsX6_feeder_r1 : List Cond := [Cond.fieldLink RX6 41 "DroopBoardModel" "thrown" "I", Cond.methodLink RX6 140 yX6_isFeeder, Cond.static yX6_isFeeder, Cond.initialized RX6, Cond.code yX6_isFeeder cX6_isFeeder 1 (some .boolean), Cond.methodLink RX6 45 yX6_in, Cond.static yX6_in, Cond.code yX6_in cX6_in 3 (some .boolean), Cond.methodLink RX6 116 yX6_fails, Cond.instanceMethod yX6_fails, Cond.selects RX6 yX6_fails yX6_fails, Cond.code yX6_fails cX6_fails 2 (some .int), Cond.methodLink RX6 119 yX6_save, Cond.instanceMethod yX6_save, Cond.selects RX6 yX6_save yX6_save, Cond.code yX6_save cX6_save 2 none, Cond.fieldLink RX6 49 "DroopBoardModel" "savedMany" "I", Cond.fieldLink RX6 13 "DroopBoardModel" "saved" "[I", Cond.fieldLink RX6 7 "DroopBoardModel" "row" "[I", Cond.methodLink RX6 143 yX6_feederNow, Cond.instanceMethod yX6_feederNow, Cond.selects RX6 yX6_feederNow yX6_feederNow, Cond.code yX6_feederNow cX6_feederNow 4 (some .int), Cond.methodLink RX6 64 yX6_ofLine]
def wsX6_feeder_r2 : List Cond := [Cond.instanceMethod yX6_ofLine, Cond.selects RX6 yX6_ofLine yX6_ofLine, Cond.code yX6_ofLine cX6_ofLine 3 (some .int)]
def wsX6_feeder : List Cond := .code yX6_feeder cX6_feeder 3 (some .int) :: ((wsX6_feeder_r1 ++ wsX6_feeder_r2) ++ wsX60)
def wsX6_pass_r1 : List Cond := [Cond.fieldLink RX6 41 "DroopBoardModel" "thrown" "I", Cond.methodLink RX6 45 yX6_in, Cond.static yX6_in, Cond.initialized RX6, Cond.code yX6_in cX6_in 3 (some .boolean), Cond.methodLink RX6 116 yX6_fails, Cond.instanceMethod yX6_fails, Cond.selects RX6 yX6_fails yX6_fails, Cond.code yX6_fails cX6_fails 2 (some .int), Cond.methodLink RX6 119 yX6_save, Cond.instanceMethod yX6_save, Cond.selects RX6 yX6_save yX6_save, Cond.code yX6_save cX6_save 2 none, Cond.fieldLink RX6 49 "DroopBoardModel" "savedMany" "I", Cond.fieldLink RX6 13 "DroopBoardModel" "saved" "[I", Cond.fieldLink RX6 7 "DroopBoardModel" "row" "[I", Cond.methodLink RX6 146 yX6_passNow, Cond.instanceMethod yX6_passNow, Cond.selects RX6 yX6_passNow yX6_passNow, Cond.code yX6_passNow cX6_passNow 4 (some .int), Cond.methodLink RX6 109 yX6_tick, Cond.instanceMethod yX6_tick, Cond.selects RX6 yX6_tick yX6_tick, Cond.code yX6_tick cX6_tick 4 (some .int)]
def wsX6_pass_r2 : List Cond := [Cond.fieldLink RX6 80 "DroopBoardModel" "lack" "I", Cond.fieldLink RX6 22 "DroopBoardModel" "powers" "[I", Cond.methodLink RX6 77 yX6_frequency, Cond.instanceMethod yX6_frequency, Cond.selects RX6 yX6_frequency yX6_frequency, Cond.code yX6_frequency cX6_frequency 3 (some .int), Cond.methodLink RX6 60 yX6_isAlive, Cond.instanceMethod yX6_isAlive, Cond.selects RX6 yX6_isAlive yX6_isAlive, Cond.code yX6_isAlive cX6_isAlive 1 (some .boolean), Cond.methodLink RX6 56 yX6_sum, Cond.instanceMethod yX6_sum, Cond.selects RX6 yX6_sum yX6_sum, Cond.code yX6_sum cX6_sum 2 (some .int), Cond.methodLink RX6 52 yX6_of, Cond.instanceMethod yX6_of, Cond.selects RX6 yX6_of yX6_of, Cond.code yX6_of cX6_of 3 (some .int), Cond.methodLink RX6 70 yX6_load, Cond.instanceMethod yX6_load, Cond.selects RX6 yX6_load yX6_load, Cond.code yX6_load cX6_load 3 (some .int), Cond.methodLink RX6 64 yX6_ofLine, Cond.instanceMethod yX6_ofLine]
def wsX6_pass_r3 : List Cond := [Cond.selects RX6 yX6_ofLine yX6_ofLine, Cond.code yX6_ofLine cX6_ofLine 3 (some .int), Cond.methodLink RX6 74 yX6_givenByAll, Cond.instanceMethod yX6_givenByAll, Cond.selects RX6 yX6_givenByAll yX6_givenByAll, Cond.code yX6_givenByAll cX6_givenByAll 2 (some .int), Cond.methodLink RX6 67 yX6_given, Cond.instanceMethod yX6_given, Cond.selects RX6 yX6_given yX6_given, Cond.code yX6_given cX6_given 3 (some .int), Cond.methodLink RX6 83 yX6_find, Cond.instanceMethod yX6_find, Cond.selects RX6 yX6_find yX6_find, Cond.code yX6_find cX6_find 5 none, Cond.methodLink RX6 37 yX6_put, Cond.instanceMethod yX6_put, Cond.selects RX6 yX6_put yX6_put, Cond.code yX6_put cX6_put 4 none, Cond.methodLink RX6 96 yX6_watch, Cond.instanceMethod yX6_watch, Cond.selects RX6 yX6_watch yX6_watch, Cond.code yX6_watch cX6_watch 3 none, Cond.methodLink RX6 99 yX6_turn, Cond.instanceMethod yX6_turn]
def wsX6_pass_r4 : List Cond := [Cond.selects RX6 yX6_turn yX6_turn, Cond.code yX6_turn cX6_turn 4 none, Cond.methodLink RX6 103 yX6_shed, Cond.instanceMethod yX6_shed, Cond.selects RX6 yX6_shed yX6_shed, Cond.code yX6_shed cX6_shed 3 none, Cond.methodLink RX6 106 yX6_trip, Cond.instanceMethod yX6_trip, Cond.selects RX6 yX6_trip yX6_trip, Cond.code yX6_trip cX6_trip 3 (some .int), Cond.methodLink RX6 92 yX6_rest, Cond.instanceMethod yX6_rest, Cond.selects RX6 yX6_rest yX6_rest, Cond.code yX6_rest cX6_rest 2 none]
def wsX6_pass : List Cond := .code yX6_pass cX6_pass 2 (some .int) :: ((wsX6_pass_r1 ++ (wsX6_pass_r2 ++ (wsX6_pass_r3 ++ wsX6_pass_r4))) ++ wsX60)
def wsX6_maySet : List Cond := .code yX6_maySet cX6_maySet 2 (some .boolean) :: ([.methodLink RX6 45 yX6_in, .static yX6_in, .initialized RX6, .code yX6_in cX6_in 3 (some .boolean)])
def wsX6_set : List Cond := .code yX6_set cX6_set 4 (some .int) :: ([.fieldLink RX6 41 "DroopBoardModel" "thrown" "I", .fieldLink RX6 7 "DroopBoardModel" "row" "[I", .methodLink RX6 45 yX6_in, .static yX6_in, .initialized RX6, .code yX6_in cX6_in 3 (some .boolean), .methodLink RX6 116 yX6_fails, .instanceMethod yX6_fails, .selects RX6 yX6_fails yX6_fails, .code yX6_fails cX6_fails 2 (some .int), .methodLink RX6 149 yX6_maySet, .static yX6_maySet, .code yX6_maySet cX6_maySet 2 (some .boolean), .methodLink RX6 119 yX6_save, .instanceMethod yX6_save, .selects RX6 yX6_save yX6_save, .code yX6_save cX6_save 2 none, .fieldLink RX6 49 "DroopBoardModel" "savedMany" "I", .fieldLink RX6 13 "DroopBoardModel" "saved" "[I"] ++ wsX60)
def wsX6_append : List Cond := .code yX6_append cX6_append 2 (some .int) :: ([.fieldLink RX6 41 "DroopBoardModel" "thrown" "I", .fieldLink RX6 153 "DroopBoardModel" "length" "I", .fieldLink RX6 25 "DroopBoardModel" "buffer" "[I", .methodLink RX6 45 yX6_in, .static yX6_in, .initialized RX6, .code yX6_in cX6_in 3 (some .boolean), .methodLink RX6 116 yX6_fails, .instanceMethod yX6_fails, .selects RX6 yX6_fails yX6_fails, .code yX6_fails cX6_fails 2 (some .int)] ++ wsX60)
def wsX6_clearBuffer : List Cond := .code yX6_clearBuffer cX6_clearBuffer 2 (some .int) :: ([.fieldLink RX6 41 "DroopBoardModel" "thrown" "I", .fieldLink RX6 153 "DroopBoardModel" "length" "I"] ++ wsX60)
def wsX6_takes : List Cond := .code yX6_takes cX6_takes 4 (some .boolean) :: ([.fieldLink RX6 156 "DroopBoardModel" "spot" "I", .fieldLink RX6 153 "DroopBoardModel" "length" "I", .fieldLink RX6 25 "DroopBoardModel" "buffer" "[I", .methodLink RX6 45 yX6_in, .static yX6_in, .initialized RX6, .code yX6_in cX6_in 3 (some .boolean)] ++ wsX60)
def wsX6_digit : List Cond := .code yX6_digit cX6_digit 2 (some .int) :: ([.fieldLink RX6 25 "DroopBoardModel" "buffer" "[I", .fieldLink RX6 156 "DroopBoardModel" "spot" "I"] ++ wsX60)
def wsX6_readSpeed : List Cond := .code yX6_readSpeed cX6_readSpeed 3 (some .boolean) :: ([.fieldLink RX6 34 "DroopBoardModel" "second" "[I", .fieldLink RX6 165 "DroopBoardModel" "orders" "I", .methodLink RX6 159 yX6_takes, .instanceMethod yX6_takes, .selects RX6 yX6_takes yX6_takes, .initialized RX6, .code yX6_takes cX6_takes 4 (some .boolean), .fieldLink RX6 156 "DroopBoardModel" "spot" "I", .fieldLink RX6 153 "DroopBoardModel" "length" "I", .fieldLink RX6 25 "DroopBoardModel" "buffer" "[I", .methodLink RX6 45 yX6_in, .static yX6_in, .code yX6_in cX6_in 3 (some .boolean), .methodLink RX6 162 yX6_digit, .instanceMethod yX6_digit, .selects RX6 yX6_digit yX6_digit, .code yX6_digit cX6_digit 2 (some .int)] ++ wsX60)
def wsX6_readTicks : List Cond := .code yX6_readTicks cX6_readTicks 1 (some .boolean) :: ([.fieldLink RX6 31 "DroopBoardModel" "first" "[I", .fieldLink RX6 165 "DroopBoardModel" "orders" "I", .methodLink RX6 159 yX6_takes, .instanceMethod yX6_takes, .selects RX6 yX6_takes yX6_takes, .initialized RX6, .code yX6_takes cX6_takes 4 (some .boolean), .fieldLink RX6 156 "DroopBoardModel" "spot" "I", .fieldLink RX6 153 "DroopBoardModel" "length" "I", .fieldLink RX6 25 "DroopBoardModel" "buffer" "[I", .methodLink RX6 45 yX6_in, .static yX6_in, .code yX6_in cX6_in 3 (some .boolean), .methodLink RX6 162 yX6_digit, .instanceMethod yX6_digit, .selects RX6 yX6_digit yX6_digit, .code yX6_digit cX6_digit 2 (some .int)] ++ wsX60)
def wsX6_readRest_r1 : List Cond := [Cond.fieldLink RX6 31 "DroopBoardModel" "first" "[I", Cond.fieldLink RX6 165 "DroopBoardModel" "orders" "I", Cond.fieldLink RX6 34 "DroopBoardModel" "second" "[I", Cond.fieldLink RX6 156 "DroopBoardModel" "spot" "I", Cond.fieldLink RX6 153 "DroopBoardModel" "length" "I", Cond.fieldLink RX6 25 "DroopBoardModel" "buffer" "[I", Cond.methodLink RX6 168 yX6_readTicks, Cond.instanceMethod yX6_readTicks, Cond.selects RX6 yX6_readTicks yX6_readTicks, Cond.initialized RX6, Cond.code yX6_readTicks cX6_readTicks 1 (some .boolean), Cond.methodLink RX6 159 yX6_takes, Cond.instanceMethod yX6_takes, Cond.selects RX6 yX6_takes yX6_takes, Cond.code yX6_takes cX6_takes 4 (some .boolean), Cond.methodLink RX6 45 yX6_in, Cond.static yX6_in, Cond.code yX6_in cX6_in 3 (some .boolean), Cond.methodLink RX6 162 yX6_digit, Cond.instanceMethod yX6_digit, Cond.selects RX6 yX6_digit yX6_digit, Cond.code yX6_digit cX6_digit 2 (some .int), Cond.methodLink RX6 171 yX6_readSpeed, Cond.instanceMethod yX6_readSpeed]
def wsX6_readRest_r2 : List Cond := [Cond.selects RX6 yX6_readSpeed yX6_readSpeed, Cond.code yX6_readSpeed cX6_readSpeed 3 (some .boolean)]
def wsX6_readRest : List Cond := .code yX6_readRest cX6_readRest 2 (some .boolean) :: ((wsX6_readRest_r1 ++ wsX6_readRest_r2) ++ wsX60)
def wsX6_readOrder_r1 : List Cond := [Cond.fieldLink RX6 156 "DroopBoardModel" "spot" "I", Cond.fieldLink RX6 153 "DroopBoardModel" "length" "I", Cond.fieldLink RX6 25 "DroopBoardModel" "buffer" "[I", Cond.fieldLink RX6 28 "DroopBoardModel" "letter" "[I", Cond.fieldLink RX6 165 "DroopBoardModel" "orders" "I", Cond.methodLink RX6 174 yX6_readRest, Cond.instanceMethod yX6_readRest, Cond.selects RX6 yX6_readRest yX6_readRest, Cond.initialized RX6, Cond.code yX6_readRest cX6_readRest 2 (some .boolean), Cond.fieldLink RX6 31 "DroopBoardModel" "first" "[I", Cond.fieldLink RX6 34 "DroopBoardModel" "second" "[I", Cond.methodLink RX6 168 yX6_readTicks, Cond.instanceMethod yX6_readTicks, Cond.selects RX6 yX6_readTicks yX6_readTicks, Cond.code yX6_readTicks cX6_readTicks 1 (some .boolean), Cond.methodLink RX6 159 yX6_takes, Cond.instanceMethod yX6_takes, Cond.selects RX6 yX6_takes yX6_takes, Cond.code yX6_takes cX6_takes 4 (some .boolean), Cond.methodLink RX6 45 yX6_in, Cond.static yX6_in, Cond.code yX6_in cX6_in 3 (some .boolean), Cond.methodLink RX6 162 yX6_digit]
def wsX6_readOrder_r2 : List Cond := [Cond.instanceMethod yX6_digit, Cond.selects RX6 yX6_digit yX6_digit, Cond.code yX6_digit cX6_digit 2 (some .int), Cond.methodLink RX6 171 yX6_readSpeed, Cond.instanceMethod yX6_readSpeed, Cond.selects RX6 yX6_readSpeed yX6_readSpeed, Cond.code yX6_readSpeed cX6_readSpeed 3 (some .boolean)]
def wsX6_readOrder : List Cond := .code yX6_readOrder cX6_readOrder 3 (some .boolean) :: ((wsX6_readOrder_r1 ++ wsX6_readOrder_r2) ++ wsX60)
def wsX6_areOrders_r1 : List Cond := [Cond.fieldLink RX6 156 "DroopBoardModel" "spot" "I", Cond.fieldLink RX6 165 "DroopBoardModel" "orders" "I", Cond.fieldLink RX6 153 "DroopBoardModel" "length" "I", Cond.methodLink RX6 177 yX6_readOrder, Cond.instanceMethod yX6_readOrder, Cond.selects RX6 yX6_readOrder yX6_readOrder, Cond.initialized RX6, Cond.code yX6_readOrder cX6_readOrder 3 (some .boolean), Cond.fieldLink RX6 25 "DroopBoardModel" "buffer" "[I", Cond.fieldLink RX6 28 "DroopBoardModel" "letter" "[I", Cond.methodLink RX6 174 yX6_readRest, Cond.instanceMethod yX6_readRest, Cond.selects RX6 yX6_readRest yX6_readRest, Cond.code yX6_readRest cX6_readRest 2 (some .boolean), Cond.fieldLink RX6 31 "DroopBoardModel" "first" "[I", Cond.fieldLink RX6 34 "DroopBoardModel" "second" "[I", Cond.methodLink RX6 168 yX6_readTicks, Cond.instanceMethod yX6_readTicks, Cond.selects RX6 yX6_readTicks yX6_readTicks, Cond.code yX6_readTicks cX6_readTicks 1 (some .boolean), Cond.methodLink RX6 159 yX6_takes, Cond.instanceMethod yX6_takes, Cond.selects RX6 yX6_takes yX6_takes, Cond.code yX6_takes cX6_takes 4 (some .boolean)]
def wsX6_areOrders_r2 : List Cond := [Cond.methodLink RX6 45 yX6_in, Cond.static yX6_in, Cond.code yX6_in cX6_in 3 (some .boolean), Cond.methodLink RX6 162 yX6_digit, Cond.instanceMethod yX6_digit, Cond.selects RX6 yX6_digit yX6_digit, Cond.code yX6_digit cX6_digit 2 (some .int), Cond.methodLink RX6 171 yX6_readSpeed, Cond.instanceMethod yX6_readSpeed, Cond.selects RX6 yX6_readSpeed yX6_readSpeed, Cond.code yX6_readSpeed cX6_readSpeed 3 (some .boolean)]
def wsX6_areOrders : List Cond := .code yX6_areOrders cX6_areOrders 2 (some .boolean) :: ((wsX6_areOrders_r1 ++ wsX6_areOrders_r2) ++ wsX60)
def wsX6_firstError_r1 : List Cond := [Cond.fieldLink RX6 41 "DroopBoardModel" "thrown" "I", Cond.fieldLink RX6 153 "DroopBoardModel" "length" "I", Cond.fieldLink RX6 156 "DroopBoardModel" "spot" "I", Cond.methodLink RX6 180 yX6_areOrders, Cond.instanceMethod yX6_areOrders, Cond.selects RX6 yX6_areOrders yX6_areOrders, Cond.initialized RX6, Cond.code yX6_areOrders cX6_areOrders 2 (some .boolean), Cond.fieldLink RX6 165 "DroopBoardModel" "orders" "I", Cond.methodLink RX6 177 yX6_readOrder, Cond.instanceMethod yX6_readOrder, Cond.selects RX6 yX6_readOrder yX6_readOrder, Cond.code yX6_readOrder cX6_readOrder 3 (some .boolean), Cond.fieldLink RX6 25 "DroopBoardModel" "buffer" "[I", Cond.fieldLink RX6 28 "DroopBoardModel" "letter" "[I", Cond.methodLink RX6 174 yX6_readRest, Cond.instanceMethod yX6_readRest, Cond.selects RX6 yX6_readRest yX6_readRest, Cond.code yX6_readRest cX6_readRest 2 (some .boolean), Cond.fieldLink RX6 31 "DroopBoardModel" "first" "[I", Cond.fieldLink RX6 34 "DroopBoardModel" "second" "[I", Cond.methodLink RX6 168 yX6_readTicks, Cond.instanceMethod yX6_readTicks, Cond.selects RX6 yX6_readTicks yX6_readTicks]
def wsX6_firstError_r2 : List Cond := [Cond.code yX6_readTicks cX6_readTicks 1 (some .boolean), Cond.methodLink RX6 159 yX6_takes, Cond.instanceMethod yX6_takes, Cond.selects RX6 yX6_takes yX6_takes, Cond.code yX6_takes cX6_takes 4 (some .boolean), Cond.methodLink RX6 45 yX6_in, Cond.static yX6_in, Cond.code yX6_in cX6_in 3 (some .boolean), Cond.methodLink RX6 162 yX6_digit, Cond.instanceMethod yX6_digit, Cond.selects RX6 yX6_digit yX6_digit, Cond.code yX6_digit cX6_digit 2 (some .int), Cond.methodLink RX6 171 yX6_readSpeed, Cond.instanceMethod yX6_readSpeed, Cond.selects RX6 yX6_readSpeed yX6_readSpeed, Cond.code yX6_readSpeed cX6_readSpeed 3 (some .boolean)]
def wsX6_firstError : List Cond := .code yX6_firstError cX6_firstError 1 (some .int) :: ((wsX6_firstError_r1 ++ wsX6_firstError_r2) ++ wsX60)
def wsX6_canDo_r1 : List Cond := [Cond.fieldLink RX6 31 "DroopBoardModel" "first" "[I", Cond.fieldLink RX6 28 "DroopBoardModel" "letter" "[I", Cond.methodLink RX6 52 yX6_of, Cond.instanceMethod yX6_of, Cond.selects RX6 yX6_of yX6_of, Cond.initialized RX6, Cond.code yX6_of cX6_of 3 (some .int), Cond.fieldLink RX6 7 "DroopBoardModel" "row" "[I", Cond.methodLink RX6 128 yX6_canHalt, Cond.instanceMethod yX6_canHalt, Cond.selects RX6 yX6_canHalt yX6_canHalt, Cond.code yX6_canHalt cX6_canHalt 2 (some .boolean), Cond.methodLink RX6 134 yX6_reason, Cond.instanceMethod yX6_reason, Cond.selects RX6 yX6_reason yX6_reason, Cond.code yX6_reason cX6_reason 2 (some .int), Cond.methodLink RX6 60 yX6_isAlive, Cond.instanceMethod yX6_isAlive, Cond.selects RX6 yX6_isAlive yX6_isAlive, Cond.code yX6_isAlive cX6_isAlive 1 (some .boolean), Cond.methodLink RX6 56 yX6_sum, Cond.instanceMethod yX6_sum, Cond.selects RX6 yX6_sum yX6_sum, Cond.code yX6_sum cX6_sum 2 (some .int)]
def wsX6_canDo_r2 : List Cond := [Cond.methodLink RX6 77 yX6_frequency, Cond.instanceMethod yX6_frequency, Cond.selects RX6 yX6_frequency yX6_frequency, Cond.code yX6_frequency cX6_frequency 3 (some .int), Cond.methodLink RX6 70 yX6_load, Cond.instanceMethod yX6_load, Cond.selects RX6 yX6_load yX6_load, Cond.code yX6_load cX6_load 3 (some .int), Cond.methodLink RX6 64 yX6_ofLine, Cond.instanceMethod yX6_ofLine, Cond.selects RX6 yX6_ofLine yX6_ofLine, Cond.code yX6_ofLine cX6_ofLine 3 (some .int), Cond.methodLink RX6 74 yX6_givenByAll, Cond.instanceMethod yX6_givenByAll, Cond.selects RX6 yX6_givenByAll yX6_givenByAll, Cond.code yX6_givenByAll cX6_givenByAll 2 (some .int), Cond.methodLink RX6 67 yX6_given, Cond.instanceMethod yX6_given, Cond.selects RX6 yX6_given yX6_given, Cond.code yX6_given cX6_given 3 (some .int), Cond.methodLink RX6 86 yX6_size, Cond.static yX6_size, Cond.code yX6_size cX6_size 1 (some .int), Cond.methodLink RX6 89 yX6_lamps]
def wsX6_canDo_r3 : List Cond := [Cond.static yX6_lamps, Cond.code yX6_lamps cX6_lamps 1 (some .int)]
def wsX6_canDo : List Cond := .code yX6_canDo cX6_canDo 3 (some .boolean) :: ((wsX6_canDo_r1 ++ (wsX6_canDo_r2 ++ wsX6_canDo_r3)) ++ wsX60)
def wsX6_doOrder_r1 : List Cond := [Cond.fieldLink RX6 28 "DroopBoardModel" "letter" "[I", Cond.fieldLink RX6 31 "DroopBoardModel" "first" "[I", Cond.fieldLink RX6 34 "DroopBoardModel" "second" "[I", Cond.methodLink RX6 122 yX6_speedNow, Cond.instanceMethod yX6_speedNow, Cond.selects RX6 yX6_speedNow yX6_speedNow, Cond.initialized RX6, Cond.code yX6_speedNow cX6_speedNow 4 (some .int), Cond.methodLink RX6 52 yX6_of, Cond.instanceMethod yX6_of, Cond.selects RX6 yX6_of yX6_of, Cond.code yX6_of cX6_of 3 (some .int), Cond.fieldLink RX6 7 "DroopBoardModel" "row" "[I", Cond.methodLink RX6 37 yX6_put, Cond.instanceMethod yX6_put, Cond.selects RX6 yX6_put yX6_put, Cond.code yX6_put cX6_put 4 none, Cond.methodLink RX6 125 yX6_runNow, Cond.instanceMethod yX6_runNow, Cond.selects RX6 yX6_runNow yX6_runNow, Cond.code yX6_runNow cX6_runNow 2 (some .int), Cond.methodLink RX6 92 yX6_rest, Cond.instanceMethod yX6_rest, Cond.selects RX6 yX6_rest yX6_rest]
def wsX6_doOrder_r2 : List Cond := [Cond.code yX6_rest cX6_rest 2 none, Cond.methodLink RX6 56 yX6_sum, Cond.instanceMethod yX6_sum, Cond.selects RX6 yX6_sum yX6_sum, Cond.code yX6_sum cX6_sum 2 (some .int), Cond.methodLink RX6 131 yX6_haltNow, Cond.instanceMethod yX6_haltNow, Cond.selects RX6 yX6_haltNow yX6_haltNow, Cond.code yX6_haltNow cX6_haltNow 2 (some .int), Cond.methodLink RX6 137 yX6_switchNow, Cond.instanceMethod yX6_switchNow, Cond.selects RX6 yX6_switchNow yX6_switchNow, Cond.code yX6_switchNow cX6_switchNow 3 (some .int), Cond.methodLink RX6 77 yX6_frequency, Cond.instanceMethod yX6_frequency, Cond.selects RX6 yX6_frequency yX6_frequency, Cond.code yX6_frequency cX6_frequency 3 (some .int), Cond.methodLink RX6 60 yX6_isAlive, Cond.instanceMethod yX6_isAlive, Cond.selects RX6 yX6_isAlive yX6_isAlive, Cond.code yX6_isAlive cX6_isAlive 1 (some .boolean), Cond.methodLink RX6 70 yX6_load, Cond.instanceMethod yX6_load, Cond.selects RX6 yX6_load yX6_load]
def wsX6_doOrder_r3 : List Cond := [Cond.code yX6_load cX6_load 3 (some .int), Cond.methodLink RX6 64 yX6_ofLine, Cond.instanceMethod yX6_ofLine, Cond.selects RX6 yX6_ofLine yX6_ofLine, Cond.code yX6_ofLine cX6_ofLine 3 (some .int), Cond.methodLink RX6 74 yX6_givenByAll, Cond.instanceMethod yX6_givenByAll, Cond.selects RX6 yX6_givenByAll yX6_givenByAll, Cond.code yX6_givenByAll cX6_givenByAll 2 (some .int), Cond.methodLink RX6 67 yX6_given, Cond.instanceMethod yX6_given, Cond.selects RX6 yX6_given yX6_given, Cond.code yX6_given cX6_given 3 (some .int), Cond.methodLink RX6 143 yX6_feederNow, Cond.instanceMethod yX6_feederNow, Cond.selects RX6 yX6_feederNow yX6_feederNow, Cond.code yX6_feederNow cX6_feederNow 4 (some .int), Cond.methodLink RX6 146 yX6_passNow, Cond.instanceMethod yX6_passNow, Cond.selects RX6 yX6_passNow yX6_passNow, Cond.code yX6_passNow cX6_passNow 4 (some .int), Cond.methodLink RX6 109 yX6_tick, Cond.instanceMethod yX6_tick, Cond.selects RX6 yX6_tick yX6_tick]
def wsX6_doOrder_r4 : List Cond := [Cond.code yX6_tick cX6_tick 4 (some .int), Cond.fieldLink RX6 80 "DroopBoardModel" "lack" "I", Cond.fieldLink RX6 22 "DroopBoardModel" "powers" "[I", Cond.methodLink RX6 83 yX6_find, Cond.instanceMethod yX6_find, Cond.selects RX6 yX6_find yX6_find, Cond.code yX6_find cX6_find 5 none, Cond.methodLink RX6 96 yX6_watch, Cond.instanceMethod yX6_watch, Cond.selects RX6 yX6_watch yX6_watch, Cond.code yX6_watch cX6_watch 3 none, Cond.methodLink RX6 99 yX6_turn, Cond.instanceMethod yX6_turn, Cond.selects RX6 yX6_turn yX6_turn, Cond.code yX6_turn cX6_turn 4 none, Cond.methodLink RX6 103 yX6_shed, Cond.instanceMethod yX6_shed, Cond.selects RX6 yX6_shed yX6_shed, Cond.code yX6_shed cX6_shed 3 none, Cond.methodLink RX6 106 yX6_trip, Cond.instanceMethod yX6_trip, Cond.selects RX6 yX6_trip yX6_trip, Cond.code yX6_trip cX6_trip 3 (some .int)]
def wsX6_doOrder : List Cond := .code yX6_doOrder cX6_doOrder 2 (some .int) :: ((wsX6_doOrder_r1 ++ (wsX6_doOrder_r2 ++ (wsX6_doOrder_r3 ++ wsX6_doOrder_r4))) ++ wsX60)
def wsX6_obey_r1 : List Cond := [Cond.fieldLink RX6 41 "DroopBoardModel" "thrown" "I", Cond.fieldLink RX6 165 "DroopBoardModel" "orders" "I", Cond.fieldLink RX6 153 "DroopBoardModel" "length" "I", Cond.methodLink RX6 180 yX6_areOrders, Cond.instanceMethod yX6_areOrders, Cond.selects RX6 yX6_areOrders yX6_areOrders, Cond.initialized RX6, Cond.code yX6_areOrders cX6_areOrders 2 (some .boolean), Cond.fieldLink RX6 156 "DroopBoardModel" "spot" "I", Cond.methodLink RX6 177 yX6_readOrder, Cond.instanceMethod yX6_readOrder, Cond.selects RX6 yX6_readOrder yX6_readOrder, Cond.code yX6_readOrder cX6_readOrder 3 (some .boolean), Cond.fieldLink RX6 25 "DroopBoardModel" "buffer" "[I", Cond.fieldLink RX6 28 "DroopBoardModel" "letter" "[I", Cond.methodLink RX6 174 yX6_readRest, Cond.instanceMethod yX6_readRest, Cond.selects RX6 yX6_readRest yX6_readRest, Cond.code yX6_readRest cX6_readRest 2 (some .boolean), Cond.fieldLink RX6 31 "DroopBoardModel" "first" "[I", Cond.fieldLink RX6 34 "DroopBoardModel" "second" "[I", Cond.methodLink RX6 168 yX6_readTicks, Cond.instanceMethod yX6_readTicks, Cond.selects RX6 yX6_readTicks yX6_readTicks]
def wsX6_obey_r2 : List Cond := [Cond.code yX6_readTicks cX6_readTicks 1 (some .boolean), Cond.methodLink RX6 159 yX6_takes, Cond.instanceMethod yX6_takes, Cond.selects RX6 yX6_takes yX6_takes, Cond.code yX6_takes cX6_takes 4 (some .boolean), Cond.methodLink RX6 45 yX6_in, Cond.static yX6_in, Cond.code yX6_in cX6_in 3 (some .boolean), Cond.methodLink RX6 162 yX6_digit, Cond.instanceMethod yX6_digit, Cond.selects RX6 yX6_digit yX6_digit, Cond.code yX6_digit cX6_digit 2 (some .int), Cond.methodLink RX6 171 yX6_readSpeed, Cond.instanceMethod yX6_readSpeed, Cond.selects RX6 yX6_readSpeed yX6_readSpeed, Cond.code yX6_readSpeed cX6_readSpeed 3 (some .boolean), Cond.methodLink RX6 116 yX6_fails, Cond.instanceMethod yX6_fails, Cond.selects RX6 yX6_fails yX6_fails, Cond.code yX6_fails cX6_fails 2 (some .int), Cond.methodLink RX6 119 yX6_save, Cond.instanceMethod yX6_save, Cond.selects RX6 yX6_save yX6_save, Cond.code yX6_save cX6_save 2 none]
def wsX6_obey_r3 : List Cond := [Cond.fieldLink RX6 49 "DroopBoardModel" "savedMany" "I", Cond.fieldLink RX6 13 "DroopBoardModel" "saved" "[I", Cond.fieldLink RX6 7 "DroopBoardModel" "row" "[I", Cond.methodLink RX6 183 yX6_canDo, Cond.instanceMethod yX6_canDo, Cond.selects RX6 yX6_canDo yX6_canDo, Cond.code yX6_canDo cX6_canDo 3 (some .boolean), Cond.methodLink RX6 52 yX6_of, Cond.instanceMethod yX6_of, Cond.selects RX6 yX6_of yX6_of, Cond.code yX6_of cX6_of 3 (some .int), Cond.methodLink RX6 128 yX6_canHalt, Cond.instanceMethod yX6_canHalt, Cond.selects RX6 yX6_canHalt yX6_canHalt, Cond.code yX6_canHalt cX6_canHalt 2 (some .boolean), Cond.methodLink RX6 134 yX6_reason, Cond.instanceMethod yX6_reason, Cond.selects RX6 yX6_reason yX6_reason, Cond.code yX6_reason cX6_reason 2 (some .int), Cond.methodLink RX6 60 yX6_isAlive, Cond.instanceMethod yX6_isAlive, Cond.selects RX6 yX6_isAlive yX6_isAlive, Cond.code yX6_isAlive cX6_isAlive 1 (some .boolean), Cond.methodLink RX6 56 yX6_sum]
def wsX6_obey_r4 : List Cond := [Cond.instanceMethod yX6_sum, Cond.selects RX6 yX6_sum yX6_sum, Cond.code yX6_sum cX6_sum 2 (some .int), Cond.methodLink RX6 77 yX6_frequency, Cond.instanceMethod yX6_frequency, Cond.selects RX6 yX6_frequency yX6_frequency, Cond.code yX6_frequency cX6_frequency 3 (some .int), Cond.methodLink RX6 70 yX6_load, Cond.instanceMethod yX6_load, Cond.selects RX6 yX6_load yX6_load, Cond.code yX6_load cX6_load 3 (some .int), Cond.methodLink RX6 64 yX6_ofLine, Cond.instanceMethod yX6_ofLine, Cond.selects RX6 yX6_ofLine yX6_ofLine, Cond.code yX6_ofLine cX6_ofLine 3 (some .int), Cond.methodLink RX6 74 yX6_givenByAll, Cond.instanceMethod yX6_givenByAll, Cond.selects RX6 yX6_givenByAll yX6_givenByAll, Cond.code yX6_givenByAll cX6_givenByAll 2 (some .int), Cond.methodLink RX6 67 yX6_given, Cond.instanceMethod yX6_given, Cond.selects RX6 yX6_given yX6_given, Cond.code yX6_given cX6_given 3 (some .int), Cond.methodLink RX6 86 yX6_size]
def wsX6_obey_r5 : List Cond := [Cond.static yX6_size, Cond.code yX6_size cX6_size 1 (some .int), Cond.methodLink RX6 89 yX6_lamps, Cond.static yX6_lamps, Cond.code yX6_lamps cX6_lamps 1 (some .int), Cond.methodLink RX6 186 yX6_doOrder, Cond.instanceMethod yX6_doOrder, Cond.selects RX6 yX6_doOrder yX6_doOrder, Cond.code yX6_doOrder cX6_doOrder 2 (some .int), Cond.methodLink RX6 122 yX6_speedNow, Cond.instanceMethod yX6_speedNow, Cond.selects RX6 yX6_speedNow yX6_speedNow, Cond.code yX6_speedNow cX6_speedNow 4 (some .int), Cond.methodLink RX6 37 yX6_put, Cond.instanceMethod yX6_put, Cond.selects RX6 yX6_put yX6_put, Cond.code yX6_put cX6_put 4 none, Cond.methodLink RX6 125 yX6_runNow, Cond.instanceMethod yX6_runNow, Cond.selects RX6 yX6_runNow yX6_runNow, Cond.code yX6_runNow cX6_runNow 2 (some .int), Cond.methodLink RX6 92 yX6_rest, Cond.instanceMethod yX6_rest, Cond.selects RX6 yX6_rest yX6_rest]
def wsX6_obey_r6 : List Cond := [Cond.code yX6_rest cX6_rest 2 none, Cond.methodLink RX6 131 yX6_haltNow, Cond.instanceMethod yX6_haltNow, Cond.selects RX6 yX6_haltNow yX6_haltNow, Cond.code yX6_haltNow cX6_haltNow 2 (some .int), Cond.methodLink RX6 137 yX6_switchNow, Cond.instanceMethod yX6_switchNow, Cond.selects RX6 yX6_switchNow yX6_switchNow, Cond.code yX6_switchNow cX6_switchNow 3 (some .int), Cond.methodLink RX6 143 yX6_feederNow, Cond.instanceMethod yX6_feederNow, Cond.selects RX6 yX6_feederNow yX6_feederNow, Cond.code yX6_feederNow cX6_feederNow 4 (some .int), Cond.methodLink RX6 146 yX6_passNow, Cond.instanceMethod yX6_passNow, Cond.selects RX6 yX6_passNow yX6_passNow, Cond.code yX6_passNow cX6_passNow 4 (some .int), Cond.methodLink RX6 109 yX6_tick, Cond.instanceMethod yX6_tick, Cond.selects RX6 yX6_tick yX6_tick, Cond.code yX6_tick cX6_tick 4 (some .int), Cond.fieldLink RX6 80 "DroopBoardModel" "lack" "I", Cond.fieldLink RX6 22 "DroopBoardModel" "powers" "[I", Cond.methodLink RX6 83 yX6_find]
def wsX6_obey_r7 : List Cond := [Cond.instanceMethod yX6_find, Cond.selects RX6 yX6_find yX6_find, Cond.code yX6_find cX6_find 5 none, Cond.methodLink RX6 96 yX6_watch, Cond.instanceMethod yX6_watch, Cond.selects RX6 yX6_watch yX6_watch, Cond.code yX6_watch cX6_watch 3 none, Cond.methodLink RX6 99 yX6_turn, Cond.instanceMethod yX6_turn, Cond.selects RX6 yX6_turn yX6_turn, Cond.code yX6_turn cX6_turn 4 none, Cond.methodLink RX6 103 yX6_shed, Cond.instanceMethod yX6_shed, Cond.selects RX6 yX6_shed yX6_shed, Cond.code yX6_shed cX6_shed 3 none, Cond.methodLink RX6 106 yX6_trip, Cond.instanceMethod yX6_trip, Cond.selects RX6 yX6_trip yX6_trip, Cond.code yX6_trip cX6_trip 3 (some .int)]
def wsX6_obey : List Cond := .code yX6_obey cX6_obey 3 (some .int) :: ((wsX6_obey_r1 ++ (wsX6_obey_r2 ++ (wsX6_obey_r3 ++ (wsX6_obey_r4 ++ (wsX6_obey_r5 ++ (wsX6_obey_r6 ++ wsX6_obey_r7)))))) ++ wsX60)
def wsX6_keep : List Cond := .code yX6_keep cX6_keep 2 (some .int) :: ([.fieldLink RX6 41 "DroopBoardModel" "thrown" "I", .fieldLink RX6 16 "DroopBoardModel" "snapshot" "[I", .fieldLink RX6 7 "DroopBoardModel" "row" "[I", .fieldLink RX6 189 "DroopBoardModel" "isKept" "Z"] ++ wsX60)
def wsX6_goBack : List Cond := .code yX6_goBack cX6_goBack 2 (some .int) :: ([.fieldLink RX6 41 "DroopBoardModel" "thrown" "I", .fieldLink RX6 189 "DroopBoardModel" "isKept" "Z", .fieldLink RX6 7 "DroopBoardModel" "row" "[I", .fieldLink RX6 16 "DroopBoardModel" "snapshot" "[I", .methodLink RX6 116 yX6_fails, .instanceMethod yX6_fails, .selects RX6 yX6_fails yX6_fails, .initialized RX6, .code yX6_fails cX6_fails 2 (some .int), .methodLink RX6 119 yX6_save, .instanceMethod yX6_save, .selects RX6 yX6_save yX6_save, .code yX6_save cX6_save 2 none, .fieldLink RX6 49 "DroopBoardModel" "savedMany" "I", .fieldLink RX6 13 "DroopBoardModel" "saved" "[I"] ++ wsX60)
def wsX6_undo : List Cond := .code yX6_undo cX6_undo 2 (some .int) :: ([.fieldLink RX6 41 "DroopBoardModel" "thrown" "I", .fieldLink RX6 49 "DroopBoardModel" "savedMany" "I", .fieldLink RX6 7 "DroopBoardModel" "row" "[I", .fieldLink RX6 13 "DroopBoardModel" "saved" "[I", .methodLink RX6 116 yX6_fails, .instanceMethod yX6_fails, .selects RX6 yX6_fails yX6_fails, .initialized RX6, .code yX6_fails cX6_fails 2 (some .int)] ++ wsX60)
def wsX6_ofDiesel_r1 : List Cond := [Cond.methodLink RX6 193 yX6_power, Cond.instanceMethod yX6_power, Cond.selects RX6 yX6_power yX6_power, Cond.initialized RX6, Cond.code yX6_power cX6_power 2 (some .int), Cond.fieldLink RX6 22 "DroopBoardModel" "powers" "[I", Cond.methodLink RX6 83 yX6_find, Cond.instanceMethod yX6_find, Cond.selects RX6 yX6_find yX6_find, Cond.code yX6_find cX6_find 5 none, Cond.fieldLink RX6 80 "DroopBoardModel" "lack" "I", Cond.methodLink RX6 77 yX6_frequency, Cond.instanceMethod yX6_frequency, Cond.selects RX6 yX6_frequency yX6_frequency, Cond.code yX6_frequency cX6_frequency 3 (some .int), Cond.methodLink RX6 60 yX6_isAlive, Cond.instanceMethod yX6_isAlive, Cond.selects RX6 yX6_isAlive yX6_isAlive, Cond.code yX6_isAlive cX6_isAlive 1 (some .boolean), Cond.methodLink RX6 56 yX6_sum, Cond.instanceMethod yX6_sum, Cond.selects RX6 yX6_sum yX6_sum, Cond.code yX6_sum cX6_sum 2 (some .int), Cond.methodLink RX6 52 yX6_of]
def wsX6_ofDiesel_r2 : List Cond := [Cond.instanceMethod yX6_of, Cond.selects RX6 yX6_of yX6_of, Cond.code yX6_of cX6_of 3 (some .int), Cond.fieldLink RX6 7 "DroopBoardModel" "row" "[I", Cond.methodLink RX6 70 yX6_load, Cond.instanceMethod yX6_load, Cond.selects RX6 yX6_load yX6_load, Cond.code yX6_load cX6_load 3 (some .int), Cond.methodLink RX6 64 yX6_ofLine, Cond.instanceMethod yX6_ofLine, Cond.selects RX6 yX6_ofLine yX6_ofLine, Cond.code yX6_ofLine cX6_ofLine 3 (some .int), Cond.methodLink RX6 74 yX6_givenByAll, Cond.instanceMethod yX6_givenByAll, Cond.selects RX6 yX6_givenByAll yX6_givenByAll, Cond.code yX6_givenByAll cX6_givenByAll 2 (some .int), Cond.methodLink RX6 67 yX6_given, Cond.instanceMethod yX6_given, Cond.selects RX6 yX6_given yX6_given, Cond.code yX6_given cX6_given 3 (some .int), Cond.methodLink RX6 89 yX6_lamps, Cond.static yX6_lamps, Cond.code yX6_lamps cX6_lamps 1 (some .int), Cond.methodLink RX6 134 yX6_reason]
def wsX6_ofDiesel_r3 : List Cond := [Cond.instanceMethod yX6_reason, Cond.selects RX6 yX6_reason yX6_reason, Cond.code yX6_reason cX6_reason 2 (some .int), Cond.methodLink RX6 86 yX6_size, Cond.static yX6_size, Cond.code yX6_size cX6_size 1 (some .int)]
def wsX6_ofDiesel : List Cond := .code yX6_ofDiesel cX6_ofDiesel 3 (some .int) :: ((wsX6_ofDiesel_r1 ++ (wsX6_ofDiesel_r2 ++ wsX6_ofDiesel_r3)) ++ wsX60)
def wsX6_diesel_r1 : List Cond := [Cond.fieldLink RX6 41 "DroopBoardModel" "thrown" "I", Cond.methodLink RX6 112 yX6_isSet, Cond.static yX6_isSet, Cond.initialized RX6, Cond.code yX6_isSet cX6_isSet 1 (some .boolean), Cond.methodLink RX6 45 yX6_in, Cond.static yX6_in, Cond.code yX6_in cX6_in 3 (some .boolean), Cond.methodLink RX6 116 yX6_fails, Cond.instanceMethod yX6_fails, Cond.selects RX6 yX6_fails yX6_fails, Cond.code yX6_fails cX6_fails 2 (some .int), Cond.methodLink RX6 196 yX6_ofDiesel, Cond.instanceMethod yX6_ofDiesel, Cond.selects RX6 yX6_ofDiesel yX6_ofDiesel, Cond.code yX6_ofDiesel cX6_ofDiesel 3 (some .int), Cond.methodLink RX6 193 yX6_power, Cond.instanceMethod yX6_power, Cond.selects RX6 yX6_power yX6_power, Cond.code yX6_power cX6_power 2 (some .int), Cond.fieldLink RX6 22 "DroopBoardModel" "powers" "[I", Cond.methodLink RX6 83 yX6_find, Cond.instanceMethod yX6_find, Cond.selects RX6 yX6_find yX6_find]
def wsX6_diesel_r2 : List Cond := [Cond.code yX6_find cX6_find 5 none, Cond.fieldLink RX6 80 "DroopBoardModel" "lack" "I", Cond.methodLink RX6 77 yX6_frequency, Cond.instanceMethod yX6_frequency, Cond.selects RX6 yX6_frequency yX6_frequency, Cond.code yX6_frequency cX6_frequency 3 (some .int), Cond.methodLink RX6 60 yX6_isAlive, Cond.instanceMethod yX6_isAlive, Cond.selects RX6 yX6_isAlive yX6_isAlive, Cond.code yX6_isAlive cX6_isAlive 1 (some .boolean), Cond.methodLink RX6 56 yX6_sum, Cond.instanceMethod yX6_sum, Cond.selects RX6 yX6_sum yX6_sum, Cond.code yX6_sum cX6_sum 2 (some .int), Cond.methodLink RX6 52 yX6_of, Cond.instanceMethod yX6_of, Cond.selects RX6 yX6_of yX6_of, Cond.code yX6_of cX6_of 3 (some .int), Cond.fieldLink RX6 7 "DroopBoardModel" "row" "[I", Cond.methodLink RX6 70 yX6_load, Cond.instanceMethod yX6_load, Cond.selects RX6 yX6_load yX6_load, Cond.code yX6_load cX6_load 3 (some .int), Cond.methodLink RX6 64 yX6_ofLine]
def wsX6_diesel_r3 : List Cond := [Cond.instanceMethod yX6_ofLine, Cond.selects RX6 yX6_ofLine yX6_ofLine, Cond.code yX6_ofLine cX6_ofLine 3 (some .int), Cond.methodLink RX6 74 yX6_givenByAll, Cond.instanceMethod yX6_givenByAll, Cond.selects RX6 yX6_givenByAll yX6_givenByAll, Cond.code yX6_givenByAll cX6_givenByAll 2 (some .int), Cond.methodLink RX6 67 yX6_given, Cond.instanceMethod yX6_given, Cond.selects RX6 yX6_given yX6_given, Cond.code yX6_given cX6_given 3 (some .int), Cond.methodLink RX6 89 yX6_lamps, Cond.static yX6_lamps, Cond.code yX6_lamps cX6_lamps 1 (some .int), Cond.methodLink RX6 134 yX6_reason, Cond.instanceMethod yX6_reason, Cond.selects RX6 yX6_reason yX6_reason, Cond.code yX6_reason cX6_reason 2 (some .int), Cond.methodLink RX6 86 yX6_size, Cond.static yX6_size, Cond.code yX6_size cX6_size 1 (some .int)]
def wsX6_diesel : List Cond := .code yX6_diesel cX6_diesel 3 (some .int) :: ((wsX6_diesel_r1 ++ (wsX6_diesel_r2 ++ wsX6_diesel_r3)) ++ wsX60)
def wsX6_line : List Cond := .code yX6_line cX6_line 3 (some .int) :: ([.fieldLink RX6 41 "DroopBoardModel" "thrown" "I", .methodLink RX6 140 yX6_isFeeder, .static yX6_isFeeder, .initialized RX6, .code yX6_isFeeder cX6_isFeeder 1 (some .boolean), .methodLink RX6 45 yX6_in, .static yX6_in, .code yX6_in cX6_in 3 (some .boolean), .methodLink RX6 116 yX6_fails, .instanceMethod yX6_fails, .selects RX6 yX6_fails yX6_fails, .code yX6_fails cX6_fails 2 (some .int), .methodLink RX6 64 yX6_ofLine, .instanceMethod yX6_ofLine, .selects RX6 yX6_ofLine yX6_ofLine, .code yX6_ofLine cX6_ofLine 3 (some .int), .fieldLink RX6 7 "DroopBoardModel" "row" "[I"] ++ wsX60)
def wsX6_allPowers_r1 : List Cond := [Cond.fieldLink RX6 22 "DroopBoardModel" "powers" "[I", Cond.methodLink RX6 83 yX6_find, Cond.instanceMethod yX6_find, Cond.selects RX6 yX6_find yX6_find, Cond.initialized RX6, Cond.code yX6_find cX6_find 5 none, Cond.fieldLink RX6 80 "DroopBoardModel" "lack" "I", Cond.methodLink RX6 77 yX6_frequency, Cond.instanceMethod yX6_frequency, Cond.selects RX6 yX6_frequency yX6_frequency, Cond.code yX6_frequency cX6_frequency 3 (some .int), Cond.methodLink RX6 60 yX6_isAlive, Cond.instanceMethod yX6_isAlive, Cond.selects RX6 yX6_isAlive yX6_isAlive, Cond.code yX6_isAlive cX6_isAlive 1 (some .boolean), Cond.methodLink RX6 56 yX6_sum, Cond.instanceMethod yX6_sum, Cond.selects RX6 yX6_sum yX6_sum, Cond.code yX6_sum cX6_sum 2 (some .int), Cond.methodLink RX6 52 yX6_of, Cond.instanceMethod yX6_of, Cond.selects RX6 yX6_of yX6_of, Cond.code yX6_of cX6_of 3 (some .int), Cond.fieldLink RX6 7 "DroopBoardModel" "row" "[I"]
def wsX6_allPowers_r2 : List Cond := [Cond.methodLink RX6 70 yX6_load, Cond.instanceMethod yX6_load, Cond.selects RX6 yX6_load yX6_load, Cond.code yX6_load cX6_load 3 (some .int), Cond.methodLink RX6 64 yX6_ofLine, Cond.instanceMethod yX6_ofLine, Cond.selects RX6 yX6_ofLine yX6_ofLine, Cond.code yX6_ofLine cX6_ofLine 3 (some .int), Cond.methodLink RX6 74 yX6_givenByAll, Cond.instanceMethod yX6_givenByAll, Cond.selects RX6 yX6_givenByAll yX6_givenByAll, Cond.code yX6_givenByAll cX6_givenByAll 2 (some .int), Cond.methodLink RX6 67 yX6_given, Cond.instanceMethod yX6_given, Cond.selects RX6 yX6_given yX6_given, Cond.code yX6_given cX6_given 3 (some .int)]
def wsX6_allPowers : List Cond := .code yX6_allPowers cX6_allPowers 1 (some .int) :: ((wsX6_allPowers_r1 ++ wsX6_allPowers_r2) ++ wsX60)
def wsX6_lacks_r1 : List Cond := [Cond.fieldLink RX6 80 "DroopBoardModel" "lack" "I", Cond.methodLink RX6 83 yX6_find, Cond.instanceMethod yX6_find, Cond.selects RX6 yX6_find yX6_find, Cond.initialized RX6, Cond.code yX6_find cX6_find 5 none, Cond.fieldLink RX6 22 "DroopBoardModel" "powers" "[I", Cond.methodLink RX6 77 yX6_frequency, Cond.instanceMethod yX6_frequency, Cond.selects RX6 yX6_frequency yX6_frequency, Cond.code yX6_frequency cX6_frequency 3 (some .int), Cond.methodLink RX6 60 yX6_isAlive, Cond.instanceMethod yX6_isAlive, Cond.selects RX6 yX6_isAlive yX6_isAlive, Cond.code yX6_isAlive cX6_isAlive 1 (some .boolean), Cond.methodLink RX6 56 yX6_sum, Cond.instanceMethod yX6_sum, Cond.selects RX6 yX6_sum yX6_sum, Cond.code yX6_sum cX6_sum 2 (some .int), Cond.methodLink RX6 52 yX6_of, Cond.instanceMethod yX6_of, Cond.selects RX6 yX6_of yX6_of, Cond.code yX6_of cX6_of 3 (some .int), Cond.fieldLink RX6 7 "DroopBoardModel" "row" "[I"]
def wsX6_lacks_r2 : List Cond := [Cond.methodLink RX6 70 yX6_load, Cond.instanceMethod yX6_load, Cond.selects RX6 yX6_load yX6_load, Cond.code yX6_load cX6_load 3 (some .int), Cond.methodLink RX6 64 yX6_ofLine, Cond.instanceMethod yX6_ofLine, Cond.selects RX6 yX6_ofLine yX6_ofLine, Cond.code yX6_ofLine cX6_ofLine 3 (some .int), Cond.methodLink RX6 74 yX6_givenByAll, Cond.instanceMethod yX6_givenByAll, Cond.selects RX6 yX6_givenByAll yX6_givenByAll, Cond.code yX6_givenByAll cX6_givenByAll 2 (some .int), Cond.methodLink RX6 67 yX6_given, Cond.instanceMethod yX6_given, Cond.selects RX6 yX6_given yX6_given, Cond.code yX6_given cX6_given 3 (some .int)]
def wsX6_lacks : List Cond := .code yX6_lacks cX6_lacks 1 (some .int) :: ((wsX6_lacks_r1 ++ wsX6_lacks_r2) ++ wsX60)
def wsX6_number_r1 : List Cond := [Cond.fieldLink RX6 7 "DroopBoardModel" "row" "[I", Cond.fieldLink RX6 49 "DroopBoardModel" "savedMany" "I", Cond.methodLink RX6 77 yX6_frequency, Cond.instanceMethod yX6_frequency, Cond.selects RX6 yX6_frequency yX6_frequency, Cond.initialized RX6, Cond.code yX6_frequency cX6_frequency 3 (some .int), Cond.methodLink RX6 60 yX6_isAlive, Cond.instanceMethod yX6_isAlive, Cond.selects RX6 yX6_isAlive yX6_isAlive, Cond.code yX6_isAlive cX6_isAlive 1 (some .boolean), Cond.methodLink RX6 56 yX6_sum, Cond.instanceMethod yX6_sum, Cond.selects RX6 yX6_sum yX6_sum, Cond.code yX6_sum cX6_sum 2 (some .int), Cond.methodLink RX6 52 yX6_of, Cond.instanceMethod yX6_of, Cond.selects RX6 yX6_of yX6_of, Cond.code yX6_of cX6_of 3 (some .int), Cond.methodLink RX6 70 yX6_load, Cond.instanceMethod yX6_load, Cond.selects RX6 yX6_load yX6_load, Cond.code yX6_load cX6_load 3 (some .int), Cond.methodLink RX6 64 yX6_ofLine]
def wsX6_number_r2 : List Cond := [Cond.instanceMethod yX6_ofLine, Cond.selects RX6 yX6_ofLine yX6_ofLine, Cond.code yX6_ofLine cX6_ofLine 3 (some .int), Cond.methodLink RX6 74 yX6_givenByAll, Cond.instanceMethod yX6_givenByAll, Cond.selects RX6 yX6_givenByAll yX6_givenByAll, Cond.code yX6_givenByAll cX6_givenByAll 2 (some .int), Cond.methodLink RX6 67 yX6_given, Cond.instanceMethod yX6_given, Cond.selects RX6 yX6_given yX6_given, Cond.code yX6_given cX6_given 3 (some .int), Cond.methodLink RX6 199 yX6_allPowers, Cond.instanceMethod yX6_allPowers, Cond.selects RX6 yX6_allPowers yX6_allPowers, Cond.code yX6_allPowers cX6_allPowers 1 (some .int), Cond.fieldLink RX6 22 "DroopBoardModel" "powers" "[I", Cond.methodLink RX6 83 yX6_find, Cond.instanceMethod yX6_find, Cond.selects RX6 yX6_find yX6_find, Cond.code yX6_find cX6_find 5 none, Cond.fieldLink RX6 80 "DroopBoardModel" "lack" "I", Cond.methodLink RX6 202 yX6_lacks, Cond.instanceMethod yX6_lacks, Cond.selects RX6 yX6_lacks yX6_lacks]
def wsX6_number_r3 : List Cond := [Cond.code yX6_lacks cX6_lacks 1 (some .int)]
def wsX6_number : List Cond := .code yX6_number cX6_number 2 (some .int) :: ((wsX6_number_r1 ++ (wsX6_number_r2 ++ wsX6_number_r3)) ++ wsX60)
def wsX6_count_r1 : List Cond := [Cond.fieldLink RX6 41 "DroopBoardModel" "thrown" "I", Cond.methodLink RX6 45 yX6_in, Cond.static yX6_in, Cond.initialized RX6, Cond.code yX6_in cX6_in 3 (some .boolean), Cond.methodLink RX6 205 yX6_number, Cond.instanceMethod yX6_number, Cond.selects RX6 yX6_number yX6_number, Cond.code yX6_number cX6_number 2 (some .int), Cond.fieldLink RX6 7 "DroopBoardModel" "row" "[I", Cond.fieldLink RX6 49 "DroopBoardModel" "savedMany" "I", Cond.methodLink RX6 77 yX6_frequency, Cond.instanceMethod yX6_frequency, Cond.selects RX6 yX6_frequency yX6_frequency, Cond.code yX6_frequency cX6_frequency 3 (some .int), Cond.methodLink RX6 60 yX6_isAlive, Cond.instanceMethod yX6_isAlive, Cond.selects RX6 yX6_isAlive yX6_isAlive, Cond.code yX6_isAlive cX6_isAlive 1 (some .boolean), Cond.methodLink RX6 56 yX6_sum, Cond.instanceMethod yX6_sum, Cond.selects RX6 yX6_sum yX6_sum, Cond.code yX6_sum cX6_sum 2 (some .int), Cond.methodLink RX6 52 yX6_of]
def wsX6_count_r2 : List Cond := [Cond.instanceMethod yX6_of, Cond.selects RX6 yX6_of yX6_of, Cond.code yX6_of cX6_of 3 (some .int), Cond.methodLink RX6 70 yX6_load, Cond.instanceMethod yX6_load, Cond.selects RX6 yX6_load yX6_load, Cond.code yX6_load cX6_load 3 (some .int), Cond.methodLink RX6 64 yX6_ofLine, Cond.instanceMethod yX6_ofLine, Cond.selects RX6 yX6_ofLine yX6_ofLine, Cond.code yX6_ofLine cX6_ofLine 3 (some .int), Cond.methodLink RX6 74 yX6_givenByAll, Cond.instanceMethod yX6_givenByAll, Cond.selects RX6 yX6_givenByAll yX6_givenByAll, Cond.code yX6_givenByAll cX6_givenByAll 2 (some .int), Cond.methodLink RX6 67 yX6_given, Cond.instanceMethod yX6_given, Cond.selects RX6 yX6_given yX6_given, Cond.code yX6_given cX6_given 3 (some .int), Cond.methodLink RX6 199 yX6_allPowers, Cond.instanceMethod yX6_allPowers, Cond.selects RX6 yX6_allPowers yX6_allPowers, Cond.code yX6_allPowers cX6_allPowers 1 (some .int), Cond.fieldLink RX6 22 "DroopBoardModel" "powers" "[I"]
def wsX6_count_r3 : List Cond := [Cond.methodLink RX6 83 yX6_find, Cond.instanceMethod yX6_find, Cond.selects RX6 yX6_find yX6_find, Cond.code yX6_find cX6_find 5 none, Cond.fieldLink RX6 80 "DroopBoardModel" "lack" "I", Cond.methodLink RX6 202 yX6_lacks, Cond.instanceMethod yX6_lacks, Cond.selects RX6 yX6_lacks yX6_lacks, Cond.code yX6_lacks cX6_lacks 1 (some .int), Cond.methodLink RX6 116 yX6_fails, Cond.instanceMethod yX6_fails, Cond.selects RX6 yX6_fails yX6_fails, Cond.code yX6_fails cX6_fails 2 (some .int)]
def wsX6_count : List Cond := .code yX6_count cX6_count 2 (some .int) :: ((wsX6_count_r1 ++ (wsX6_count_r2 ++ wsX6_count_r3)) ++ wsX60)
def wsX6_setting : List Cond := .code yX6_setting cX6_setting 2 (some .int) :: ([.fieldLink RX6 41 "DroopBoardModel" "thrown" "I", .fieldLink RX6 7 "DroopBoardModel" "row" "[I", .methodLink RX6 45 yX6_in, .static yX6_in, .initialized RX6, .code yX6_in cX6_in 3 (some .boolean), .methodLink RX6 116 yX6_fails, .instanceMethod yX6_fails, .selects RX6 yX6_fails yX6_fails, .code yX6_fails cX6_fails 2 (some .int)] ++ wsX60)
def wsX6_withSpeed_r1 : List Cond := [Cond.methodLink RX6 122 yX6_speedNow, Cond.instanceMethod yX6_speedNow, Cond.selects RX6 yX6_speedNow yX6_speedNow, Cond.initialized RX6, Cond.code yX6_speedNow cX6_speedNow 4 (some .int), Cond.methodLink RX6 52 yX6_of, Cond.instanceMethod yX6_of, Cond.selects RX6 yX6_of yX6_of, Cond.code yX6_of cX6_of 3 (some .int), Cond.fieldLink RX6 7 "DroopBoardModel" "row" "[I", Cond.methodLink RX6 37 yX6_put, Cond.instanceMethod yX6_put, Cond.selects RX6 yX6_put yX6_put, Cond.code yX6_put cX6_put 4 none, Cond.methodLink RX6 77 yX6_frequency, Cond.instanceMethod yX6_frequency, Cond.selects RX6 yX6_frequency yX6_frequency, Cond.code yX6_frequency cX6_frequency 3 (some .int), Cond.methodLink RX6 60 yX6_isAlive, Cond.instanceMethod yX6_isAlive, Cond.selects RX6 yX6_isAlive yX6_isAlive, Cond.code yX6_isAlive cX6_isAlive 1 (some .boolean), Cond.methodLink RX6 56 yX6_sum, Cond.instanceMethod yX6_sum]
def wsX6_withSpeed_r2 : List Cond := [Cond.selects RX6 yX6_sum yX6_sum, Cond.code yX6_sum cX6_sum 2 (some .int), Cond.methodLink RX6 70 yX6_load, Cond.instanceMethod yX6_load, Cond.selects RX6 yX6_load yX6_load, Cond.code yX6_load cX6_load 3 (some .int), Cond.methodLink RX6 64 yX6_ofLine, Cond.instanceMethod yX6_ofLine, Cond.selects RX6 yX6_ofLine yX6_ofLine, Cond.code yX6_ofLine cX6_ofLine 3 (some .int), Cond.methodLink RX6 74 yX6_givenByAll, Cond.instanceMethod yX6_givenByAll, Cond.selects RX6 yX6_givenByAll yX6_givenByAll, Cond.code yX6_givenByAll cX6_givenByAll 2 (some .int), Cond.methodLink RX6 67 yX6_given, Cond.instanceMethod yX6_given, Cond.selects RX6 yX6_given yX6_given, Cond.code yX6_given cX6_given 3 (some .int), Cond.methodLink RX6 193 yX6_power, Cond.instanceMethod yX6_power, Cond.selects RX6 yX6_power yX6_power, Cond.code yX6_power cX6_power 2 (some .int), Cond.fieldLink RX6 22 "DroopBoardModel" "powers" "[I", Cond.methodLink RX6 83 yX6_find]
def wsX6_withSpeed_r3 : List Cond := [Cond.instanceMethod yX6_find, Cond.selects RX6 yX6_find yX6_find, Cond.code yX6_find cX6_find 5 none, Cond.fieldLink RX6 80 "DroopBoardModel" "lack" "I", Cond.methodLink RX6 202 yX6_lacks, Cond.instanceMethod yX6_lacks, Cond.selects RX6 yX6_lacks yX6_lacks, Cond.code yX6_lacks cX6_lacks 1 (some .int)]
def wsX6_withSpeed : List Cond := .code yX6_withSpeed cX6_withSpeed 6 (some .int) :: ((wsX6_withSpeed_r1 ++ (wsX6_withSpeed_r2 ++ wsX6_withSpeed_r3)) ++ wsX60)
def wsX6_ifSpeed_r1 : List Cond := [Cond.fieldLink RX6 41 "DroopBoardModel" "thrown" "I", Cond.methodLink RX6 112 yX6_isSet, Cond.static yX6_isSet, Cond.initialized RX6, Cond.code yX6_isSet cX6_isSet 1 (some .boolean), Cond.methodLink RX6 45 yX6_in, Cond.static yX6_in, Cond.code yX6_in cX6_in 3 (some .boolean), Cond.methodLink RX6 116 yX6_fails, Cond.instanceMethod yX6_fails, Cond.selects RX6 yX6_fails yX6_fails, Cond.code yX6_fails cX6_fails 2 (some .int), Cond.methodLink RX6 208 yX6_withSpeed, Cond.instanceMethod yX6_withSpeed, Cond.selects RX6 yX6_withSpeed yX6_withSpeed, Cond.code yX6_withSpeed cX6_withSpeed 6 (some .int), Cond.methodLink RX6 122 yX6_speedNow, Cond.instanceMethod yX6_speedNow, Cond.selects RX6 yX6_speedNow yX6_speedNow, Cond.code yX6_speedNow cX6_speedNow 4 (some .int), Cond.methodLink RX6 52 yX6_of, Cond.instanceMethod yX6_of, Cond.selects RX6 yX6_of yX6_of, Cond.code yX6_of cX6_of 3 (some .int)]
def wsX6_ifSpeed_r2 : List Cond := [Cond.fieldLink RX6 7 "DroopBoardModel" "row" "[I", Cond.methodLink RX6 37 yX6_put, Cond.instanceMethod yX6_put, Cond.selects RX6 yX6_put yX6_put, Cond.code yX6_put cX6_put 4 none, Cond.methodLink RX6 77 yX6_frequency, Cond.instanceMethod yX6_frequency, Cond.selects RX6 yX6_frequency yX6_frequency, Cond.code yX6_frequency cX6_frequency 3 (some .int), Cond.methodLink RX6 60 yX6_isAlive, Cond.instanceMethod yX6_isAlive, Cond.selects RX6 yX6_isAlive yX6_isAlive, Cond.code yX6_isAlive cX6_isAlive 1 (some .boolean), Cond.methodLink RX6 56 yX6_sum, Cond.instanceMethod yX6_sum, Cond.selects RX6 yX6_sum yX6_sum, Cond.code yX6_sum cX6_sum 2 (some .int), Cond.methodLink RX6 70 yX6_load, Cond.instanceMethod yX6_load, Cond.selects RX6 yX6_load yX6_load, Cond.code yX6_load cX6_load 3 (some .int), Cond.methodLink RX6 64 yX6_ofLine, Cond.instanceMethod yX6_ofLine, Cond.selects RX6 yX6_ofLine yX6_ofLine]
def wsX6_ifSpeed_r3 : List Cond := [Cond.code yX6_ofLine cX6_ofLine 3 (some .int), Cond.methodLink RX6 74 yX6_givenByAll, Cond.instanceMethod yX6_givenByAll, Cond.selects RX6 yX6_givenByAll yX6_givenByAll, Cond.code yX6_givenByAll cX6_givenByAll 2 (some .int), Cond.methodLink RX6 67 yX6_given, Cond.instanceMethod yX6_given, Cond.selects RX6 yX6_given yX6_given, Cond.code yX6_given cX6_given 3 (some .int), Cond.methodLink RX6 193 yX6_power, Cond.instanceMethod yX6_power, Cond.selects RX6 yX6_power yX6_power, Cond.code yX6_power cX6_power 2 (some .int), Cond.fieldLink RX6 22 "DroopBoardModel" "powers" "[I", Cond.methodLink RX6 83 yX6_find, Cond.instanceMethod yX6_find, Cond.selects RX6 yX6_find yX6_find, Cond.code yX6_find cX6_find 5 none, Cond.fieldLink RX6 80 "DroopBoardModel" "lack" "I", Cond.methodLink RX6 202 yX6_lacks, Cond.instanceMethod yX6_lacks, Cond.selects RX6 yX6_lacks yX6_lacks, Cond.code yX6_lacks cX6_lacks 1 (some .int)]
def wsX6_ifSpeed : List Cond := .code yX6_ifSpeed cX6_ifSpeed 4 (some .int) :: ((wsX6_ifSpeed_r1 ++ (wsX6_ifSpeed_r2 ++ wsX6_ifSpeed_r3)) ++ wsX60)
def wsX6_closableIn_r1 : List Cond := [Cond.methodLink RX6 212 yX6_putAside, Cond.instanceMethod yX6_putAside, Cond.selects RX6 yX6_putAside yX6_putAside, Cond.initialized RX6, Cond.code yX6_putAside cX6_putAside 2 none, Cond.fieldLink RX6 19 "DroopBoardModel" "aside" "[I", Cond.fieldLink RX6 7 "DroopBoardModel" "row" "[I", Cond.methodLink RX6 134 yX6_reason, Cond.instanceMethod yX6_reason, Cond.selects RX6 yX6_reason yX6_reason, Cond.code yX6_reason cX6_reason 2 (some .int), Cond.methodLink RX6 52 yX6_of, Cond.instanceMethod yX6_of, Cond.selects RX6 yX6_of yX6_of, Cond.code yX6_of cX6_of 3 (some .int), Cond.methodLink RX6 60 yX6_isAlive, Cond.instanceMethod yX6_isAlive, Cond.selects RX6 yX6_isAlive yX6_isAlive, Cond.code yX6_isAlive cX6_isAlive 1 (some .boolean), Cond.methodLink RX6 56 yX6_sum, Cond.instanceMethod yX6_sum, Cond.selects RX6 yX6_sum yX6_sum, Cond.code yX6_sum cX6_sum 2 (some .int), Cond.methodLink RX6 77 yX6_frequency]
def wsX6_closableIn_r2 : List Cond := [Cond.instanceMethod yX6_frequency, Cond.selects RX6 yX6_frequency yX6_frequency, Cond.code yX6_frequency cX6_frequency 3 (some .int), Cond.methodLink RX6 70 yX6_load, Cond.instanceMethod yX6_load, Cond.selects RX6 yX6_load yX6_load, Cond.code yX6_load cX6_load 3 (some .int), Cond.methodLink RX6 64 yX6_ofLine, Cond.instanceMethod yX6_ofLine, Cond.selects RX6 yX6_ofLine yX6_ofLine, Cond.code yX6_ofLine cX6_ofLine 3 (some .int), Cond.methodLink RX6 74 yX6_givenByAll, Cond.instanceMethod yX6_givenByAll, Cond.selects RX6 yX6_givenByAll yX6_givenByAll, Cond.code yX6_givenByAll cX6_givenByAll 2 (some .int), Cond.methodLink RX6 67 yX6_given, Cond.instanceMethod yX6_given, Cond.selects RX6 yX6_given yX6_given, Cond.code yX6_given cX6_given 3 (some .int), Cond.methodLink RX6 86 yX6_size, Cond.static yX6_size, Cond.code yX6_size cX6_size 1 (some .int), Cond.methodLink RX6 89 yX6_lamps, Cond.static yX6_lamps]
def wsX6_closableIn_r3 : List Cond := [Cond.code yX6_lamps cX6_lamps 1 (some .int), Cond.methodLink RX6 109 yX6_tick, Cond.instanceMethod yX6_tick, Cond.selects RX6 yX6_tick yX6_tick, Cond.code yX6_tick cX6_tick 4 (some .int), Cond.fieldLink RX6 80 "DroopBoardModel" "lack" "I", Cond.fieldLink RX6 22 "DroopBoardModel" "powers" "[I", Cond.methodLink RX6 83 yX6_find, Cond.instanceMethod yX6_find, Cond.selects RX6 yX6_find yX6_find, Cond.code yX6_find cX6_find 5 none, Cond.methodLink RX6 37 yX6_put, Cond.instanceMethod yX6_put, Cond.selects RX6 yX6_put yX6_put, Cond.code yX6_put cX6_put 4 none, Cond.methodLink RX6 96 yX6_watch, Cond.instanceMethod yX6_watch, Cond.selects RX6 yX6_watch yX6_watch, Cond.code yX6_watch cX6_watch 3 none, Cond.methodLink RX6 99 yX6_turn, Cond.instanceMethod yX6_turn, Cond.selects RX6 yX6_turn yX6_turn, Cond.code yX6_turn cX6_turn 4 none, Cond.methodLink RX6 103 yX6_shed]
def wsX6_closableIn_r4 : List Cond := [Cond.instanceMethod yX6_shed, Cond.selects RX6 yX6_shed yX6_shed, Cond.code yX6_shed cX6_shed 3 none, Cond.methodLink RX6 106 yX6_trip, Cond.instanceMethod yX6_trip, Cond.selects RX6 yX6_trip yX6_trip, Cond.code yX6_trip cX6_trip 3 (some .int), Cond.methodLink RX6 92 yX6_rest, Cond.instanceMethod yX6_rest, Cond.selects RX6 yX6_rest yX6_rest, Cond.code yX6_rest cX6_rest 2 none, Cond.methodLink RX6 215 yX6_putBack, Cond.instanceMethod yX6_putBack, Cond.selects RX6 yX6_putBack yX6_putBack, Cond.code yX6_putBack cX6_putBack 2 none]
def wsX6_closableIn : List Cond := .code yX6_closableIn cX6_closableIn 4 (some .int) :: ((wsX6_closableIn_r1 ++ (wsX6_closableIn_r2 ++ (wsX6_closableIn_r3 ++ wsX6_closableIn_r4))) ++ wsX60)
def wsX6_closeIn_r1 : List Cond := [Cond.fieldLink RX6 41 "DroopBoardModel" "thrown" "I", Cond.methodLink RX6 112 yX6_isSet, Cond.static yX6_isSet, Cond.initialized RX6, Cond.code yX6_isSet cX6_isSet 1 (some .boolean), Cond.methodLink RX6 45 yX6_in, Cond.static yX6_in, Cond.code yX6_in cX6_in 3 (some .boolean), Cond.methodLink RX6 218 yX6_closableIn, Cond.instanceMethod yX6_closableIn, Cond.selects RX6 yX6_closableIn yX6_closableIn, Cond.code yX6_closableIn cX6_closableIn 4 (some .int), Cond.methodLink RX6 212 yX6_putAside, Cond.instanceMethod yX6_putAside, Cond.selects RX6 yX6_putAside yX6_putAside, Cond.code yX6_putAside cX6_putAside 2 none, Cond.fieldLink RX6 19 "DroopBoardModel" "aside" "[I", Cond.fieldLink RX6 7 "DroopBoardModel" "row" "[I", Cond.methodLink RX6 134 yX6_reason, Cond.instanceMethod yX6_reason, Cond.selects RX6 yX6_reason yX6_reason, Cond.code yX6_reason cX6_reason 2 (some .int), Cond.methodLink RX6 52 yX6_of, Cond.instanceMethod yX6_of]
def wsX6_closeIn_r2 : List Cond := [Cond.selects RX6 yX6_of yX6_of, Cond.code yX6_of cX6_of 3 (some .int), Cond.methodLink RX6 60 yX6_isAlive, Cond.instanceMethod yX6_isAlive, Cond.selects RX6 yX6_isAlive yX6_isAlive, Cond.code yX6_isAlive cX6_isAlive 1 (some .boolean), Cond.methodLink RX6 56 yX6_sum, Cond.instanceMethod yX6_sum, Cond.selects RX6 yX6_sum yX6_sum, Cond.code yX6_sum cX6_sum 2 (some .int), Cond.methodLink RX6 77 yX6_frequency, Cond.instanceMethod yX6_frequency, Cond.selects RX6 yX6_frequency yX6_frequency, Cond.code yX6_frequency cX6_frequency 3 (some .int), Cond.methodLink RX6 70 yX6_load, Cond.instanceMethod yX6_load, Cond.selects RX6 yX6_load yX6_load, Cond.code yX6_load cX6_load 3 (some .int), Cond.methodLink RX6 64 yX6_ofLine, Cond.instanceMethod yX6_ofLine, Cond.selects RX6 yX6_ofLine yX6_ofLine, Cond.code yX6_ofLine cX6_ofLine 3 (some .int), Cond.methodLink RX6 74 yX6_givenByAll, Cond.instanceMethod yX6_givenByAll]
def wsX6_closeIn_r3 : List Cond := [Cond.selects RX6 yX6_givenByAll yX6_givenByAll, Cond.code yX6_givenByAll cX6_givenByAll 2 (some .int), Cond.methodLink RX6 67 yX6_given, Cond.instanceMethod yX6_given, Cond.selects RX6 yX6_given yX6_given, Cond.code yX6_given cX6_given 3 (some .int), Cond.methodLink RX6 86 yX6_size, Cond.static yX6_size, Cond.code yX6_size cX6_size 1 (some .int), Cond.methodLink RX6 89 yX6_lamps, Cond.static yX6_lamps, Cond.code yX6_lamps cX6_lamps 1 (some .int), Cond.methodLink RX6 109 yX6_tick, Cond.instanceMethod yX6_tick, Cond.selects RX6 yX6_tick yX6_tick, Cond.code yX6_tick cX6_tick 4 (some .int), Cond.fieldLink RX6 80 "DroopBoardModel" "lack" "I", Cond.fieldLink RX6 22 "DroopBoardModel" "powers" "[I", Cond.methodLink RX6 83 yX6_find, Cond.instanceMethod yX6_find, Cond.selects RX6 yX6_find yX6_find, Cond.code yX6_find cX6_find 5 none, Cond.methodLink RX6 37 yX6_put, Cond.instanceMethod yX6_put]
def wsX6_closeIn_r4 : List Cond := [Cond.selects RX6 yX6_put yX6_put, Cond.code yX6_put cX6_put 4 none, Cond.methodLink RX6 96 yX6_watch, Cond.instanceMethod yX6_watch, Cond.selects RX6 yX6_watch yX6_watch, Cond.code yX6_watch cX6_watch 3 none, Cond.methodLink RX6 99 yX6_turn, Cond.instanceMethod yX6_turn, Cond.selects RX6 yX6_turn yX6_turn, Cond.code yX6_turn cX6_turn 4 none, Cond.methodLink RX6 103 yX6_shed, Cond.instanceMethod yX6_shed, Cond.selects RX6 yX6_shed yX6_shed, Cond.code yX6_shed cX6_shed 3 none, Cond.methodLink RX6 106 yX6_trip, Cond.instanceMethod yX6_trip, Cond.selects RX6 yX6_trip yX6_trip, Cond.code yX6_trip cX6_trip 3 (some .int), Cond.methodLink RX6 92 yX6_rest, Cond.instanceMethod yX6_rest, Cond.selects RX6 yX6_rest yX6_rest, Cond.code yX6_rest cX6_rest 2 none, Cond.methodLink RX6 215 yX6_putBack, Cond.instanceMethod yX6_putBack]
def wsX6_closeIn_r5 : List Cond := [Cond.selects RX6 yX6_putBack yX6_putBack, Cond.code yX6_putBack cX6_putBack 2 none, Cond.methodLink RX6 116 yX6_fails, Cond.instanceMethod yX6_fails, Cond.selects RX6 yX6_fails yX6_fails, Cond.code yX6_fails cX6_fails 2 (some .int)]
def wsX6_closeIn : List Cond := .code yX6_closeIn cX6_closeIn 2 (some .int) :: ((wsX6_closeIn_r1 ++ (wsX6_closeIn_r2 ++ (wsX6_closeIn_r3 ++ (wsX6_closeIn_r4 ++ wsX6_closeIn_r5)))) ++ wsX60)
def wsX6_ratings : List Cond := .code yX6_ratings cX6_ratings 3 (some .int) :: ([.methodLink RX6 52 yX6_of, .instanceMethod yX6_of, .selects RX6 yX6_of yX6_of, .initialized RX6, .code yX6_of cX6_of 3 (some .int), .fieldLink RX6 7 "DroopBoardModel" "row" "[I"] ++ wsX60)
def wsX6_fairFor_r1 : List Cond := [Cond.methodLink RX6 52 yX6_of, Cond.instanceMethod yX6_of, Cond.selects RX6 yX6_of yX6_of, Cond.initialized RX6, Cond.code yX6_of cX6_of 3 (some .int), Cond.fieldLink RX6 7 "DroopBoardModel" "row" "[I", Cond.methodLink RX6 70 yX6_load, Cond.instanceMethod yX6_load, Cond.selects RX6 yX6_load yX6_load, Cond.code yX6_load cX6_load 3 (some .int), Cond.methodLink RX6 60 yX6_isAlive, Cond.instanceMethod yX6_isAlive, Cond.selects RX6 yX6_isAlive yX6_isAlive, Cond.code yX6_isAlive cX6_isAlive 1 (some .boolean), Cond.methodLink RX6 56 yX6_sum, Cond.instanceMethod yX6_sum, Cond.selects RX6 yX6_sum yX6_sum, Cond.code yX6_sum cX6_sum 2 (some .int), Cond.methodLink RX6 64 yX6_ofLine, Cond.instanceMethod yX6_ofLine, Cond.selects RX6 yX6_ofLine yX6_ofLine, Cond.code yX6_ofLine cX6_ofLine 3 (some .int), Cond.methodLink RX6 221 yX6_ratings, Cond.instanceMethod yX6_ratings]
def wsX6_fairFor_r2 : List Cond := [Cond.selects RX6 yX6_ratings yX6_ratings, Cond.code yX6_ratings cX6_ratings 3 (some .int), Cond.methodLink RX6 208 yX6_withSpeed, Cond.instanceMethod yX6_withSpeed, Cond.selects RX6 yX6_withSpeed yX6_withSpeed, Cond.code yX6_withSpeed cX6_withSpeed 6 (some .int), Cond.methodLink RX6 122 yX6_speedNow, Cond.instanceMethod yX6_speedNow, Cond.selects RX6 yX6_speedNow yX6_speedNow, Cond.code yX6_speedNow cX6_speedNow 4 (some .int), Cond.methodLink RX6 37 yX6_put, Cond.instanceMethod yX6_put, Cond.selects RX6 yX6_put yX6_put, Cond.code yX6_put cX6_put 4 none, Cond.methodLink RX6 77 yX6_frequency, Cond.instanceMethod yX6_frequency, Cond.selects RX6 yX6_frequency yX6_frequency, Cond.code yX6_frequency cX6_frequency 3 (some .int), Cond.methodLink RX6 74 yX6_givenByAll, Cond.instanceMethod yX6_givenByAll, Cond.selects RX6 yX6_givenByAll yX6_givenByAll, Cond.code yX6_givenByAll cX6_givenByAll 2 (some .int), Cond.methodLink RX6 67 yX6_given, Cond.instanceMethod yX6_given]
def wsX6_fairFor_r3 : List Cond := [Cond.selects RX6 yX6_given yX6_given, Cond.code yX6_given cX6_given 3 (some .int), Cond.methodLink RX6 193 yX6_power, Cond.instanceMethod yX6_power, Cond.selects RX6 yX6_power yX6_power, Cond.code yX6_power cX6_power 2 (some .int), Cond.fieldLink RX6 22 "DroopBoardModel" "powers" "[I", Cond.methodLink RX6 83 yX6_find, Cond.instanceMethod yX6_find, Cond.selects RX6 yX6_find yX6_find, Cond.code yX6_find cX6_find 5 none, Cond.fieldLink RX6 80 "DroopBoardModel" "lack" "I", Cond.methodLink RX6 202 yX6_lacks, Cond.instanceMethod yX6_lacks, Cond.selects RX6 yX6_lacks yX6_lacks, Cond.code yX6_lacks cX6_lacks 1 (some .int), Cond.methodLink RX6 86 yX6_size, Cond.static yX6_size, Cond.code yX6_size cX6_size 1 (some .int)]
def wsX6_fairFor : List Cond := .code yX6_fairFor cX6_fairFor 8 (some .int) :: ((wsX6_fairFor_r1 ++ (wsX6_fairFor_r2 ++ wsX6_fairFor_r3)) ++ wsX60)
def wsX6_fairSpeed_r1 : List Cond := [Cond.fieldLink RX6 41 "DroopBoardModel" "thrown" "I", Cond.methodLink RX6 112 yX6_isSet, Cond.static yX6_isSet, Cond.initialized RX6, Cond.code yX6_isSet cX6_isSet 1 (some .boolean), Cond.methodLink RX6 45 yX6_in, Cond.static yX6_in, Cond.code yX6_in cX6_in 3 (some .boolean), Cond.methodLink RX6 224 yX6_fairFor, Cond.instanceMethod yX6_fairFor, Cond.selects RX6 yX6_fairFor yX6_fairFor, Cond.code yX6_fairFor cX6_fairFor 8 (some .int), Cond.methodLink RX6 52 yX6_of, Cond.instanceMethod yX6_of, Cond.selects RX6 yX6_of yX6_of, Cond.code yX6_of cX6_of 3 (some .int), Cond.fieldLink RX6 7 "DroopBoardModel" "row" "[I", Cond.methodLink RX6 70 yX6_load, Cond.instanceMethod yX6_load, Cond.selects RX6 yX6_load yX6_load, Cond.code yX6_load cX6_load 3 (some .int), Cond.methodLink RX6 60 yX6_isAlive, Cond.instanceMethod yX6_isAlive, Cond.selects RX6 yX6_isAlive yX6_isAlive]
def wsX6_fairSpeed_r2 : List Cond := [Cond.code yX6_isAlive cX6_isAlive 1 (some .boolean), Cond.methodLink RX6 56 yX6_sum, Cond.instanceMethod yX6_sum, Cond.selects RX6 yX6_sum yX6_sum, Cond.code yX6_sum cX6_sum 2 (some .int), Cond.methodLink RX6 64 yX6_ofLine, Cond.instanceMethod yX6_ofLine, Cond.selects RX6 yX6_ofLine yX6_ofLine, Cond.code yX6_ofLine cX6_ofLine 3 (some .int), Cond.methodLink RX6 221 yX6_ratings, Cond.instanceMethod yX6_ratings, Cond.selects RX6 yX6_ratings yX6_ratings, Cond.code yX6_ratings cX6_ratings 3 (some .int), Cond.methodLink RX6 208 yX6_withSpeed, Cond.instanceMethod yX6_withSpeed, Cond.selects RX6 yX6_withSpeed yX6_withSpeed, Cond.code yX6_withSpeed cX6_withSpeed 6 (some .int), Cond.methodLink RX6 122 yX6_speedNow, Cond.instanceMethod yX6_speedNow, Cond.selects RX6 yX6_speedNow yX6_speedNow, Cond.code yX6_speedNow cX6_speedNow 4 (some .int), Cond.methodLink RX6 37 yX6_put, Cond.instanceMethod yX6_put, Cond.selects RX6 yX6_put yX6_put]
def wsX6_fairSpeed_r3 : List Cond := [Cond.code yX6_put cX6_put 4 none, Cond.methodLink RX6 77 yX6_frequency, Cond.instanceMethod yX6_frequency, Cond.selects RX6 yX6_frequency yX6_frequency, Cond.code yX6_frequency cX6_frequency 3 (some .int), Cond.methodLink RX6 74 yX6_givenByAll, Cond.instanceMethod yX6_givenByAll, Cond.selects RX6 yX6_givenByAll yX6_givenByAll, Cond.code yX6_givenByAll cX6_givenByAll 2 (some .int), Cond.methodLink RX6 67 yX6_given, Cond.instanceMethod yX6_given, Cond.selects RX6 yX6_given yX6_given, Cond.code yX6_given cX6_given 3 (some .int), Cond.methodLink RX6 193 yX6_power, Cond.instanceMethod yX6_power, Cond.selects RX6 yX6_power yX6_power, Cond.code yX6_power cX6_power 2 (some .int), Cond.fieldLink RX6 22 "DroopBoardModel" "powers" "[I", Cond.methodLink RX6 83 yX6_find, Cond.instanceMethod yX6_find, Cond.selects RX6 yX6_find yX6_find, Cond.code yX6_find cX6_find 5 none, Cond.fieldLink RX6 80 "DroopBoardModel" "lack" "I", Cond.methodLink RX6 202 yX6_lacks]
def wsX6_fairSpeed_r4 : List Cond := [Cond.instanceMethod yX6_lacks, Cond.selects RX6 yX6_lacks yX6_lacks, Cond.code yX6_lacks cX6_lacks 1 (some .int), Cond.methodLink RX6 86 yX6_size, Cond.static yX6_size, Cond.code yX6_size cX6_size 1 (some .int), Cond.methodLink RX6 116 yX6_fails, Cond.instanceMethod yX6_fails, Cond.selects RX6 yX6_fails yX6_fails, Cond.code yX6_fails cX6_fails 2 (some .int)]
def wsX6_fairSpeed : List Cond := .code yX6_fairSpeed cX6_fairSpeed 2 (some .int) :: ((wsX6_fairSpeed_r1 ++ (wsX6_fairSpeed_r2 ++ (wsX6_fairSpeed_r3 ++ wsX6_fairSpeed_r4))) ++ wsX60)
def wsX6_tripIn_r1 : List Cond := [Cond.methodLink RX6 212 yX6_putAside, Cond.instanceMethod yX6_putAside, Cond.selects RX6 yX6_putAside yX6_putAside, Cond.initialized RX6, Cond.code yX6_putAside cX6_putAside 2 none, Cond.fieldLink RX6 19 "DroopBoardModel" "aside" "[I", Cond.fieldLink RX6 7 "DroopBoardModel" "row" "[I", Cond.methodLink RX6 109 yX6_tick, Cond.instanceMethod yX6_tick, Cond.selects RX6 yX6_tick yX6_tick, Cond.code yX6_tick cX6_tick 4 (some .int), Cond.fieldLink RX6 80 "DroopBoardModel" "lack" "I", Cond.fieldLink RX6 22 "DroopBoardModel" "powers" "[I", Cond.methodLink RX6 77 yX6_frequency, Cond.instanceMethod yX6_frequency, Cond.selects RX6 yX6_frequency yX6_frequency, Cond.code yX6_frequency cX6_frequency 3 (some .int), Cond.methodLink RX6 60 yX6_isAlive, Cond.instanceMethod yX6_isAlive, Cond.selects RX6 yX6_isAlive yX6_isAlive, Cond.code yX6_isAlive cX6_isAlive 1 (some .boolean), Cond.methodLink RX6 56 yX6_sum, Cond.instanceMethod yX6_sum, Cond.selects RX6 yX6_sum yX6_sum]
def wsX6_tripIn_r2 : List Cond := [Cond.code yX6_sum cX6_sum 2 (some .int), Cond.methodLink RX6 52 yX6_of, Cond.instanceMethod yX6_of, Cond.selects RX6 yX6_of yX6_of, Cond.code yX6_of cX6_of 3 (some .int), Cond.methodLink RX6 70 yX6_load, Cond.instanceMethod yX6_load, Cond.selects RX6 yX6_load yX6_load, Cond.code yX6_load cX6_load 3 (some .int), Cond.methodLink RX6 64 yX6_ofLine, Cond.instanceMethod yX6_ofLine, Cond.selects RX6 yX6_ofLine yX6_ofLine, Cond.code yX6_ofLine cX6_ofLine 3 (some .int), Cond.methodLink RX6 74 yX6_givenByAll, Cond.instanceMethod yX6_givenByAll, Cond.selects RX6 yX6_givenByAll yX6_givenByAll, Cond.code yX6_givenByAll cX6_givenByAll 2 (some .int), Cond.methodLink RX6 67 yX6_given, Cond.instanceMethod yX6_given, Cond.selects RX6 yX6_given yX6_given, Cond.code yX6_given cX6_given 3 (some .int), Cond.methodLink RX6 83 yX6_find, Cond.instanceMethod yX6_find, Cond.selects RX6 yX6_find yX6_find]
def wsX6_tripIn_r3 : List Cond := [Cond.code yX6_find cX6_find 5 none, Cond.methodLink RX6 37 yX6_put, Cond.instanceMethod yX6_put, Cond.selects RX6 yX6_put yX6_put, Cond.code yX6_put cX6_put 4 none, Cond.methodLink RX6 96 yX6_watch, Cond.instanceMethod yX6_watch, Cond.selects RX6 yX6_watch yX6_watch, Cond.code yX6_watch cX6_watch 3 none, Cond.methodLink RX6 99 yX6_turn, Cond.instanceMethod yX6_turn, Cond.selects RX6 yX6_turn yX6_turn, Cond.code yX6_turn cX6_turn 4 none, Cond.methodLink RX6 103 yX6_shed, Cond.instanceMethod yX6_shed, Cond.selects RX6 yX6_shed yX6_shed, Cond.code yX6_shed cX6_shed 3 none, Cond.methodLink RX6 106 yX6_trip, Cond.instanceMethod yX6_trip, Cond.selects RX6 yX6_trip yX6_trip, Cond.code yX6_trip cX6_trip 3 (some .int), Cond.methodLink RX6 92 yX6_rest, Cond.instanceMethod yX6_rest, Cond.selects RX6 yX6_rest yX6_rest]
def wsX6_tripIn_r4 : List Cond := [Cond.code yX6_rest cX6_rest 2 none, Cond.methodLink RX6 215 yX6_putBack, Cond.instanceMethod yX6_putBack, Cond.selects RX6 yX6_putBack yX6_putBack, Cond.code yX6_putBack cX6_putBack 2 none]
def wsX6_tripIn : List Cond := .code yX6_tripIn cX6_tripIn 3 (some .int) :: ((wsX6_tripIn_r1 ++ (wsX6_tripIn_r2 ++ (wsX6_tripIn_r3 ++ wsX6_tripIn_r4))) ++ wsX60)
def wsX6_nextTrip_r1 : List Cond := [Cond.fieldLink RX6 41 "DroopBoardModel" "thrown" "I", Cond.methodLink RX6 227 yX6_tripIn, Cond.instanceMethod yX6_tripIn, Cond.selects RX6 yX6_tripIn yX6_tripIn, Cond.initialized RX6, Cond.code yX6_tripIn cX6_tripIn 3 (some .int), Cond.methodLink RX6 212 yX6_putAside, Cond.instanceMethod yX6_putAside, Cond.selects RX6 yX6_putAside yX6_putAside, Cond.code yX6_putAside cX6_putAside 2 none, Cond.fieldLink RX6 19 "DroopBoardModel" "aside" "[I", Cond.fieldLink RX6 7 "DroopBoardModel" "row" "[I", Cond.methodLink RX6 109 yX6_tick, Cond.instanceMethod yX6_tick, Cond.selects RX6 yX6_tick yX6_tick, Cond.code yX6_tick cX6_tick 4 (some .int), Cond.fieldLink RX6 80 "DroopBoardModel" "lack" "I", Cond.fieldLink RX6 22 "DroopBoardModel" "powers" "[I", Cond.methodLink RX6 77 yX6_frequency, Cond.instanceMethod yX6_frequency, Cond.selects RX6 yX6_frequency yX6_frequency, Cond.code yX6_frequency cX6_frequency 3 (some .int), Cond.methodLink RX6 60 yX6_isAlive, Cond.instanceMethod yX6_isAlive]
def wsX6_nextTrip_r2 : List Cond := [Cond.selects RX6 yX6_isAlive yX6_isAlive, Cond.code yX6_isAlive cX6_isAlive 1 (some .boolean), Cond.methodLink RX6 56 yX6_sum, Cond.instanceMethod yX6_sum, Cond.selects RX6 yX6_sum yX6_sum, Cond.code yX6_sum cX6_sum 2 (some .int), Cond.methodLink RX6 52 yX6_of, Cond.instanceMethod yX6_of, Cond.selects RX6 yX6_of yX6_of, Cond.code yX6_of cX6_of 3 (some .int), Cond.methodLink RX6 70 yX6_load, Cond.instanceMethod yX6_load, Cond.selects RX6 yX6_load yX6_load, Cond.code yX6_load cX6_load 3 (some .int), Cond.methodLink RX6 64 yX6_ofLine, Cond.instanceMethod yX6_ofLine, Cond.selects RX6 yX6_ofLine yX6_ofLine, Cond.code yX6_ofLine cX6_ofLine 3 (some .int), Cond.methodLink RX6 74 yX6_givenByAll, Cond.instanceMethod yX6_givenByAll, Cond.selects RX6 yX6_givenByAll yX6_givenByAll, Cond.code yX6_givenByAll cX6_givenByAll 2 (some .int), Cond.methodLink RX6 67 yX6_given, Cond.instanceMethod yX6_given]
def wsX6_nextTrip_r3 : List Cond := [Cond.selects RX6 yX6_given yX6_given, Cond.code yX6_given cX6_given 3 (some .int), Cond.methodLink RX6 83 yX6_find, Cond.instanceMethod yX6_find, Cond.selects RX6 yX6_find yX6_find, Cond.code yX6_find cX6_find 5 none, Cond.methodLink RX6 37 yX6_put, Cond.instanceMethod yX6_put, Cond.selects RX6 yX6_put yX6_put, Cond.code yX6_put cX6_put 4 none, Cond.methodLink RX6 96 yX6_watch, Cond.instanceMethod yX6_watch, Cond.selects RX6 yX6_watch yX6_watch, Cond.code yX6_watch cX6_watch 3 none, Cond.methodLink RX6 99 yX6_turn, Cond.instanceMethod yX6_turn, Cond.selects RX6 yX6_turn yX6_turn, Cond.code yX6_turn cX6_turn 4 none, Cond.methodLink RX6 103 yX6_shed, Cond.instanceMethod yX6_shed, Cond.selects RX6 yX6_shed yX6_shed, Cond.code yX6_shed cX6_shed 3 none, Cond.methodLink RX6 106 yX6_trip, Cond.instanceMethod yX6_trip]
def wsX6_nextTrip_r4 : List Cond := [Cond.selects RX6 yX6_trip yX6_trip, Cond.code yX6_trip cX6_trip 3 (some .int), Cond.methodLink RX6 92 yX6_rest, Cond.instanceMethod yX6_rest, Cond.selects RX6 yX6_rest yX6_rest, Cond.code yX6_rest cX6_rest 2 none, Cond.methodLink RX6 215 yX6_putBack, Cond.instanceMethod yX6_putBack, Cond.selects RX6 yX6_putBack yX6_putBack, Cond.code yX6_putBack cX6_putBack 2 none]
def wsX6_nextTrip : List Cond := .code yX6_nextTrip cX6_nextTrip 1 (some .int) :: ((wsX6_nextTrip_r1 ++ (wsX6_nextTrip_r2 ++ (wsX6_nextTrip_r3 ++ wsX6_nextTrip_r4))) ++ wsX60)
def wsX6_share_r1 : List Cond := [Cond.methodLink RX6 60 yX6_isAlive, Cond.instanceMethod yX6_isAlive, Cond.selects RX6 yX6_isAlive yX6_isAlive, Cond.initialized RX6, Cond.code yX6_isAlive cX6_isAlive 1 (some .boolean), Cond.methodLink RX6 56 yX6_sum, Cond.instanceMethod yX6_sum, Cond.selects RX6 yX6_sum yX6_sum, Cond.code yX6_sum cX6_sum 2 (some .int), Cond.methodLink RX6 52 yX6_of, Cond.instanceMethod yX6_of, Cond.selects RX6 yX6_of yX6_of, Cond.code yX6_of cX6_of 3 (some .int), Cond.fieldLink RX6 7 "DroopBoardModel" "row" "[I", Cond.methodLink RX6 70 yX6_load, Cond.instanceMethod yX6_load, Cond.selects RX6 yX6_load yX6_load, Cond.code yX6_load cX6_load 3 (some .int), Cond.methodLink RX6 64 yX6_ofLine, Cond.instanceMethod yX6_ofLine, Cond.selects RX6 yX6_ofLine yX6_ofLine, Cond.code yX6_ofLine cX6_ofLine 3 (some .int), Cond.methodLink RX6 221 yX6_ratings, Cond.instanceMethod yX6_ratings]
def wsX6_share_r2 : List Cond := [Cond.selects RX6 yX6_ratings yX6_ratings, Cond.code yX6_ratings cX6_ratings 3 (some .int)]
def wsX6_share : List Cond := .code yX6_share cX6_share 1 (some .double) :: ((wsX6_share_r1 ++ wsX6_share_r2) ++ wsX60)
def wsX6_loadShare_r1 : List Cond := [Cond.fieldLink RX6 41 "DroopBoardModel" "thrown" "I", Cond.methodLink RX6 230 yX6_share, Cond.instanceMethod yX6_share, Cond.selects RX6 yX6_share yX6_share, Cond.initialized RX6, Cond.code yX6_share cX6_share 1 (some .double), Cond.methodLink RX6 60 yX6_isAlive, Cond.instanceMethod yX6_isAlive, Cond.selects RX6 yX6_isAlive yX6_isAlive, Cond.code yX6_isAlive cX6_isAlive 1 (some .boolean), Cond.methodLink RX6 56 yX6_sum, Cond.instanceMethod yX6_sum, Cond.selects RX6 yX6_sum yX6_sum, Cond.code yX6_sum cX6_sum 2 (some .int), Cond.methodLink RX6 52 yX6_of, Cond.instanceMethod yX6_of, Cond.selects RX6 yX6_of yX6_of, Cond.code yX6_of cX6_of 3 (some .int), Cond.fieldLink RX6 7 "DroopBoardModel" "row" "[I", Cond.methodLink RX6 70 yX6_load, Cond.instanceMethod yX6_load, Cond.selects RX6 yX6_load yX6_load, Cond.code yX6_load cX6_load 3 (some .int), Cond.methodLink RX6 64 yX6_ofLine]
def wsX6_loadShare_r2 : List Cond := [Cond.instanceMethod yX6_ofLine, Cond.selects RX6 yX6_ofLine yX6_ofLine, Cond.code yX6_ofLine cX6_ofLine 3 (some .int), Cond.methodLink RX6 221 yX6_ratings, Cond.instanceMethod yX6_ratings, Cond.selects RX6 yX6_ratings yX6_ratings, Cond.code yX6_ratings cX6_ratings 3 (some .int)]
def wsX6_loadShare : List Cond := .code yX6_loadShare cX6_loadShare 1 (some .double) :: ((wsX6_loadShare_r1 ++ wsX6_loadShare_r2) ++ wsX60)
def wsX6_mean : List Cond := .code yX6_mean cX6_mean 1 (some .float) :: ([.fieldLink RX6 7 "DroopBoardModel" "row" "[I"] ++ wsX60)
def wsX6_meanPower : List Cond := .code yX6_meanPower cX6_meanPower 1 (some .float) :: ([.fieldLink RX6 41 "DroopBoardModel" "thrown" "I", .methodLink RX6 234 yX6_mean, .instanceMethod yX6_mean, .selects RX6 yX6_mean yX6_mean, .initialized RX6, .code yX6_mean cX6_mean 1 (some .float), .fieldLink RX6 7 "DroopBoardModel" "row" "[I"] ++ wsX60)
def wsX6_mix : List Cond := .code yX6_mix cX6_mix 3 none :: ([.constantLong RX6 238 (31), .fieldLink RX6 240 "DroopBoardModel" "hash" "J"] ++ wsX60)
def wsX6_mixSet_r1 : List Cond := [Cond.methodLink RX6 196 yX6_ofDiesel, Cond.instanceMethod yX6_ofDiesel, Cond.selects RX6 yX6_ofDiesel yX6_ofDiesel, Cond.initialized RX6, Cond.code yX6_ofDiesel cX6_ofDiesel 3 (some .int), Cond.methodLink RX6 193 yX6_power, Cond.instanceMethod yX6_power, Cond.selects RX6 yX6_power yX6_power, Cond.code yX6_power cX6_power 2 (some .int), Cond.fieldLink RX6 22 "DroopBoardModel" "powers" "[I", Cond.methodLink RX6 83 yX6_find, Cond.instanceMethod yX6_find, Cond.selects RX6 yX6_find yX6_find, Cond.code yX6_find cX6_find 5 none, Cond.fieldLink RX6 80 "DroopBoardModel" "lack" "I", Cond.methodLink RX6 77 yX6_frequency, Cond.instanceMethod yX6_frequency, Cond.selects RX6 yX6_frequency yX6_frequency, Cond.code yX6_frequency cX6_frequency 3 (some .int), Cond.methodLink RX6 60 yX6_isAlive, Cond.instanceMethod yX6_isAlive, Cond.selects RX6 yX6_isAlive yX6_isAlive, Cond.code yX6_isAlive cX6_isAlive 1 (some .boolean), Cond.methodLink RX6 56 yX6_sum]
def wsX6_mixSet_r2 : List Cond := [Cond.instanceMethod yX6_sum, Cond.selects RX6 yX6_sum yX6_sum, Cond.code yX6_sum cX6_sum 2 (some .int), Cond.methodLink RX6 52 yX6_of, Cond.instanceMethod yX6_of, Cond.selects RX6 yX6_of yX6_of, Cond.code yX6_of cX6_of 3 (some .int), Cond.fieldLink RX6 7 "DroopBoardModel" "row" "[I", Cond.methodLink RX6 70 yX6_load, Cond.instanceMethod yX6_load, Cond.selects RX6 yX6_load yX6_load, Cond.code yX6_load cX6_load 3 (some .int), Cond.methodLink RX6 64 yX6_ofLine, Cond.instanceMethod yX6_ofLine, Cond.selects RX6 yX6_ofLine yX6_ofLine, Cond.code yX6_ofLine cX6_ofLine 3 (some .int), Cond.methodLink RX6 74 yX6_givenByAll, Cond.instanceMethod yX6_givenByAll, Cond.selects RX6 yX6_givenByAll yX6_givenByAll, Cond.code yX6_givenByAll cX6_givenByAll 2 (some .int), Cond.methodLink RX6 67 yX6_given, Cond.instanceMethod yX6_given, Cond.selects RX6 yX6_given yX6_given, Cond.code yX6_given cX6_given 3 (some .int)]
def wsX6_mixSet_r3 : List Cond := [Cond.methodLink RX6 89 yX6_lamps, Cond.static yX6_lamps, Cond.code yX6_lamps cX6_lamps 1 (some .int), Cond.methodLink RX6 134 yX6_reason, Cond.instanceMethod yX6_reason, Cond.selects RX6 yX6_reason yX6_reason, Cond.code yX6_reason cX6_reason 2 (some .int), Cond.methodLink RX6 86 yX6_size, Cond.static yX6_size, Cond.code yX6_size cX6_size 1 (some .int), Cond.methodLink RX6 244 yX6_mix, Cond.instanceMethod yX6_mix, Cond.selects RX6 yX6_mix yX6_mix, Cond.code yX6_mix cX6_mix 3 none, Cond.constantLong RX6 238 (31), Cond.fieldLink RX6 240 "DroopBoardModel" "hash" "J", Cond.methodLink RX6 208 yX6_withSpeed, Cond.instanceMethod yX6_withSpeed, Cond.selects RX6 yX6_withSpeed yX6_withSpeed, Cond.code yX6_withSpeed cX6_withSpeed 6 (some .int), Cond.methodLink RX6 122 yX6_speedNow, Cond.instanceMethod yX6_speedNow, Cond.selects RX6 yX6_speedNow yX6_speedNow, Cond.code yX6_speedNow cX6_speedNow 4 (some .int)]
def wsX6_mixSet_r4 : List Cond := [Cond.methodLink RX6 37 yX6_put, Cond.instanceMethod yX6_put, Cond.selects RX6 yX6_put yX6_put, Cond.code yX6_put cX6_put 4 none, Cond.methodLink RX6 202 yX6_lacks, Cond.instanceMethod yX6_lacks, Cond.selects RX6 yX6_lacks yX6_lacks, Cond.code yX6_lacks cX6_lacks 1 (some .int), Cond.methodLink RX6 218 yX6_closableIn, Cond.instanceMethod yX6_closableIn, Cond.selects RX6 yX6_closableIn yX6_closableIn, Cond.code yX6_closableIn cX6_closableIn 4 (some .int), Cond.methodLink RX6 212 yX6_putAside, Cond.instanceMethod yX6_putAside, Cond.selects RX6 yX6_putAside yX6_putAside, Cond.code yX6_putAside cX6_putAside 2 none, Cond.fieldLink RX6 19 "DroopBoardModel" "aside" "[I", Cond.methodLink RX6 109 yX6_tick, Cond.instanceMethod yX6_tick, Cond.selects RX6 yX6_tick yX6_tick, Cond.code yX6_tick cX6_tick 4 (some .int), Cond.methodLink RX6 96 yX6_watch, Cond.instanceMethod yX6_watch, Cond.selects RX6 yX6_watch yX6_watch]
def wsX6_mixSet_r5 : List Cond := [Cond.code yX6_watch cX6_watch 3 none, Cond.methodLink RX6 99 yX6_turn, Cond.instanceMethod yX6_turn, Cond.selects RX6 yX6_turn yX6_turn, Cond.code yX6_turn cX6_turn 4 none, Cond.methodLink RX6 103 yX6_shed, Cond.instanceMethod yX6_shed, Cond.selects RX6 yX6_shed yX6_shed, Cond.code yX6_shed cX6_shed 3 none, Cond.methodLink RX6 106 yX6_trip, Cond.instanceMethod yX6_trip, Cond.selects RX6 yX6_trip yX6_trip, Cond.code yX6_trip cX6_trip 3 (some .int), Cond.methodLink RX6 92 yX6_rest, Cond.instanceMethod yX6_rest, Cond.selects RX6 yX6_rest yX6_rest, Cond.code yX6_rest cX6_rest 2 none, Cond.methodLink RX6 215 yX6_putBack, Cond.instanceMethod yX6_putBack, Cond.selects RX6 yX6_putBack yX6_putBack, Cond.code yX6_putBack cX6_putBack 2 none, Cond.methodLink RX6 224 yX6_fairFor, Cond.instanceMethod yX6_fairFor, Cond.selects RX6 yX6_fairFor yX6_fairFor]
def wsX6_mixSet_r6 : List Cond := [Cond.code yX6_fairFor cX6_fairFor 8 (some .int), Cond.methodLink RX6 221 yX6_ratings, Cond.instanceMethod yX6_ratings, Cond.selects RX6 yX6_ratings yX6_ratings, Cond.code yX6_ratings cX6_ratings 3 (some .int)]
def wsX6_mixSet : List Cond := .code yX6_mixSet cX6_mixSet 3 none :: ((wsX6_mixSet_r1 ++ (wsX6_mixSet_r2 ++ (wsX6_mixSet_r3 ++ (wsX6_mixSet_r4 ++ (wsX6_mixSet_r5 ++ wsX6_mixSet_r6))))) ++ wsX60)
def wsJxe99ae_isNaN_b9ae7 : List Cond := .code yJxe99ae_isNaN_b9ae7 cJxe99ae_isNaN_b9ae7 2 (some .boolean) :: ([])
def wsJxe99ae_doubleToLongBits_ccdee : List Cond := .code yJxe99ae_doubleToLongBits_ccdee cJxe99ae_doubleToLongBits_ccdee 2 (some .long) :: ([.methodLink RJxe99ae 134 ⟨"java/lang/Double", "doubleToRawLongBits", "(D)J"⟩, .native ⟨"java/lang/Double", "doubleToRawLongBits", "(D)J"⟩, .static ⟨"java/lang/Double", "doubleToRawLongBits", "(D)J"⟩, .initialized "java/lang/Double", .constantLong RJxe99ae 137 (9221120237041090560), .methodLink RJxe99ae 122 yJxe99ae_isNaN_b9ae7, .static yJxe99ae_isNaN_b9ae7, .initialized RJxe99ae, .code yJxe99ae_isNaN_b9ae7 cJxe99ae_isNaN_b9ae7 2 (some .boolean)])
def wsJxf58ca_isNaN_12338 : List Cond := .code yJxf58ca_isNaN_12338 cJxf58ca_isNaN_12338 1 (some .boolean) :: ([])
def wsJxf58ca_floatToIntBits_5c35a : List Cond := .code yJxf58ca_floatToIntBits_5c35a cJxf58ca_floatToIntBits_5c35a 1 (some .int) :: ([.methodLink RJxf58ca 74 ⟨"java/lang/Float", "floatToRawIntBits", "(F)I"⟩, .native ⟨"java/lang/Float", "floatToRawIntBits", "(F)I"⟩, .static ⟨"java/lang/Float", "floatToRawIntBits", "(F)I"⟩, .initialized "java/lang/Float", .constant RJxf58ca 77 (2143289344), .methodLink RJxf58ca 59 yJxf58ca_isNaN_12338, .static yJxf58ca_isNaN_12338, .initialized RJxf58ca, .code yJxf58ca_isNaN_12338 cJxf58ca_isNaN_12338 1 (some .boolean)])
def wsX6_digest_r1 : List Cond := [Cond.fieldLink RX6 41 "DroopBoardModel" "thrown" "I", Cond.constantLong RX6 248 (3701), Cond.fieldLink RX6 240 "DroopBoardModel" "hash" "J", Cond.fieldLink RX6 7 "DroopBoardModel" "row" "[I", Cond.fieldLink RX6 189 "DroopBoardModel" "isKept" "Z", Cond.fieldLink RX6 153 "DroopBoardModel" "length" "I", Cond.fieldLink RX6 25 "DroopBoardModel" "buffer" "[I", Cond.methodLink RX6 205 yX6_number, Cond.instanceMethod yX6_number, Cond.selects RX6 yX6_number yX6_number, Cond.initialized RX6, Cond.code yX6_number cX6_number 2 (some .int), Cond.fieldLink RX6 49 "DroopBoardModel" "savedMany" "I", Cond.methodLink RX6 77 yX6_frequency, Cond.instanceMethod yX6_frequency, Cond.selects RX6 yX6_frequency yX6_frequency, Cond.code yX6_frequency cX6_frequency 3 (some .int), Cond.methodLink RX6 60 yX6_isAlive, Cond.instanceMethod yX6_isAlive, Cond.selects RX6 yX6_isAlive yX6_isAlive, Cond.code yX6_isAlive cX6_isAlive 1 (some .boolean), Cond.methodLink RX6 56 yX6_sum, Cond.instanceMethod yX6_sum, Cond.selects RX6 yX6_sum yX6_sum]
def wsX6_digest_r2 : List Cond := [Cond.code yX6_sum cX6_sum 2 (some .int), Cond.methodLink RX6 52 yX6_of, Cond.instanceMethod yX6_of, Cond.selects RX6 yX6_of yX6_of, Cond.code yX6_of cX6_of 3 (some .int), Cond.methodLink RX6 70 yX6_load, Cond.instanceMethod yX6_load, Cond.selects RX6 yX6_load yX6_load, Cond.code yX6_load cX6_load 3 (some .int), Cond.methodLink RX6 64 yX6_ofLine, Cond.instanceMethod yX6_ofLine, Cond.selects RX6 yX6_ofLine yX6_ofLine, Cond.code yX6_ofLine cX6_ofLine 3 (some .int), Cond.methodLink RX6 74 yX6_givenByAll, Cond.instanceMethod yX6_givenByAll, Cond.selects RX6 yX6_givenByAll yX6_givenByAll, Cond.code yX6_givenByAll cX6_givenByAll 2 (some .int), Cond.methodLink RX6 67 yX6_given, Cond.instanceMethod yX6_given, Cond.selects RX6 yX6_given yX6_given, Cond.code yX6_given cX6_given 3 (some .int), Cond.methodLink RX6 199 yX6_allPowers, Cond.instanceMethod yX6_allPowers, Cond.selects RX6 yX6_allPowers yX6_allPowers]
def wsX6_digest_r3 : List Cond := [Cond.code yX6_allPowers cX6_allPowers 1 (some .int), Cond.fieldLink RX6 22 "DroopBoardModel" "powers" "[I", Cond.methodLink RX6 83 yX6_find, Cond.instanceMethod yX6_find, Cond.selects RX6 yX6_find yX6_find, Cond.code yX6_find cX6_find 5 none, Cond.fieldLink RX6 80 "DroopBoardModel" "lack" "I", Cond.methodLink RX6 202 yX6_lacks, Cond.instanceMethod yX6_lacks, Cond.selects RX6 yX6_lacks yX6_lacks, Cond.code yX6_lacks cX6_lacks 1 (some .int), Cond.methodLink RX6 244 yX6_mix, Cond.instanceMethod yX6_mix, Cond.selects RX6 yX6_mix yX6_mix, Cond.code yX6_mix cX6_mix 3 none, Cond.constantLong RX6 238 (31), Cond.methodLink RX6 250 yX6_mixSet, Cond.instanceMethod yX6_mixSet, Cond.selects RX6 yX6_mixSet yX6_mixSet, Cond.code yX6_mixSet cX6_mixSet 3 none, Cond.methodLink RX6 196 yX6_ofDiesel, Cond.instanceMethod yX6_ofDiesel, Cond.selects RX6 yX6_ofDiesel yX6_ofDiesel, Cond.code yX6_ofDiesel cX6_ofDiesel 3 (some .int)]
def wsX6_digest_r4 : List Cond := [Cond.methodLink RX6 193 yX6_power, Cond.instanceMethod yX6_power, Cond.selects RX6 yX6_power yX6_power, Cond.code yX6_power cX6_power 2 (some .int), Cond.methodLink RX6 89 yX6_lamps, Cond.static yX6_lamps, Cond.code yX6_lamps cX6_lamps 1 (some .int), Cond.methodLink RX6 134 yX6_reason, Cond.instanceMethod yX6_reason, Cond.selects RX6 yX6_reason yX6_reason, Cond.code yX6_reason cX6_reason 2 (some .int), Cond.methodLink RX6 86 yX6_size, Cond.static yX6_size, Cond.code yX6_size cX6_size 1 (some .int), Cond.methodLink RX6 208 yX6_withSpeed, Cond.instanceMethod yX6_withSpeed, Cond.selects RX6 yX6_withSpeed yX6_withSpeed, Cond.code yX6_withSpeed cX6_withSpeed 6 (some .int), Cond.methodLink RX6 122 yX6_speedNow, Cond.instanceMethod yX6_speedNow, Cond.selects RX6 yX6_speedNow yX6_speedNow, Cond.code yX6_speedNow cX6_speedNow 4 (some .int), Cond.methodLink RX6 37 yX6_put, Cond.instanceMethod yX6_put]
def wsX6_digest_r5 : List Cond := [Cond.selects RX6 yX6_put yX6_put, Cond.code yX6_put cX6_put 4 none, Cond.methodLink RX6 218 yX6_closableIn, Cond.instanceMethod yX6_closableIn, Cond.selects RX6 yX6_closableIn yX6_closableIn, Cond.code yX6_closableIn cX6_closableIn 4 (some .int), Cond.methodLink RX6 212 yX6_putAside, Cond.instanceMethod yX6_putAside, Cond.selects RX6 yX6_putAside yX6_putAside, Cond.code yX6_putAside cX6_putAside 2 none, Cond.fieldLink RX6 19 "DroopBoardModel" "aside" "[I", Cond.methodLink RX6 109 yX6_tick, Cond.instanceMethod yX6_tick, Cond.selects RX6 yX6_tick yX6_tick, Cond.code yX6_tick cX6_tick 4 (some .int), Cond.methodLink RX6 96 yX6_watch, Cond.instanceMethod yX6_watch, Cond.selects RX6 yX6_watch yX6_watch, Cond.code yX6_watch cX6_watch 3 none, Cond.methodLink RX6 99 yX6_turn, Cond.instanceMethod yX6_turn, Cond.selects RX6 yX6_turn yX6_turn, Cond.code yX6_turn cX6_turn 4 none, Cond.methodLink RX6 103 yX6_shed]
def wsX6_digest_r6 : List Cond := [Cond.instanceMethod yX6_shed, Cond.selects RX6 yX6_shed yX6_shed, Cond.code yX6_shed cX6_shed 3 none, Cond.methodLink RX6 106 yX6_trip, Cond.instanceMethod yX6_trip, Cond.selects RX6 yX6_trip yX6_trip, Cond.code yX6_trip cX6_trip 3 (some .int), Cond.methodLink RX6 92 yX6_rest, Cond.instanceMethod yX6_rest, Cond.selects RX6 yX6_rest yX6_rest, Cond.code yX6_rest cX6_rest 2 none, Cond.methodLink RX6 215 yX6_putBack, Cond.instanceMethod yX6_putBack, Cond.selects RX6 yX6_putBack yX6_putBack, Cond.code yX6_putBack cX6_putBack 2 none, Cond.methodLink RX6 224 yX6_fairFor, Cond.instanceMethod yX6_fairFor, Cond.selects RX6 yX6_fairFor yX6_fairFor, Cond.code yX6_fairFor cX6_fairFor 8 (some .int), Cond.methodLink RX6 221 yX6_ratings, Cond.instanceMethod yX6_ratings, Cond.selects RX6 yX6_ratings yX6_ratings, Cond.code yX6_ratings cX6_ratings 3 (some .int), Cond.methodLink RX6 227 yX6_tripIn]
def wsX6_digest_r7 : List Cond := [Cond.instanceMethod yX6_tripIn, Cond.selects RX6 yX6_tripIn yX6_tripIn, Cond.code yX6_tripIn cX6_tripIn 3 (some .int), Cond.methodLink RX6 230 yX6_share, Cond.instanceMethod yX6_share, Cond.selects RX6 yX6_share yX6_share, Cond.code yX6_share cX6_share 1 (some .double), Cond.methodLink RX6 253 yJxe99ae_doubleToLongBits_ccdee, Cond.static yJxe99ae_doubleToLongBits_ccdee, Cond.initialized RJxe99ae, Cond.code yJxe99ae_doubleToLongBits_ccdee cJxe99ae_doubleToLongBits_ccdee 2 (some .long), Cond.methodLink RJxe99ae 134 ⟨"java/lang/Double", "doubleToRawLongBits", "(D)J"⟩, Cond.native ⟨"java/lang/Double", "doubleToRawLongBits", "(D)J"⟩, Cond.static ⟨"java/lang/Double", "doubleToRawLongBits", "(D)J"⟩, Cond.initialized "java/lang/Double", Cond.constantLong RJxe99ae 137 (9221120237041090560), Cond.methodLink RJxe99ae 122 yJxe99ae_isNaN_b9ae7, Cond.static yJxe99ae_isNaN_b9ae7, Cond.code yJxe99ae_isNaN_b9ae7 cJxe99ae_isNaN_b9ae7 2 (some .boolean), Cond.methodLink RX6 234 yX6_mean, Cond.instanceMethod yX6_mean, Cond.selects RX6 yX6_mean yX6_mean, Cond.code yX6_mean cX6_mean 1 (some .float), Cond.methodLink RX6 259 yJxf58ca_floatToIntBits_5c35a]
def wsX6_digest_r8 : List Cond := [Cond.static yJxf58ca_floatToIntBits_5c35a, Cond.initialized RJxf58ca, Cond.code yJxf58ca_floatToIntBits_5c35a cJxf58ca_floatToIntBits_5c35a 1 (some .int), Cond.methodLink RJxf58ca 74 ⟨"java/lang/Float", "floatToRawIntBits", "(F)I"⟩, Cond.native ⟨"java/lang/Float", "floatToRawIntBits", "(F)I"⟩, Cond.static ⟨"java/lang/Float", "floatToRawIntBits", "(F)I"⟩, Cond.initialized "java/lang/Float", Cond.constant RJxf58ca 77 (2143289344), Cond.methodLink RJxf58ca 59 yJxf58ca_isNaN_12338, Cond.static yJxf58ca_isNaN_12338, Cond.code yJxf58ca_isNaN_12338 cJxf58ca_isNaN_12338 1 (some .boolean)]
def wsX6_digest : List Cond := .code yX6_digest cX6_digest 2 (some .long) :: ((wsX6_digest_r1 ++ (wsX6_digest_r2 ++ (wsX6_digest_r3 ++ (wsX6_digest_r4 ++ (wsX6_digest_r5 ++ (wsX6_digest_r6 ++ (wsX6_digest_r7 ++ wsX6_digest_r8))))))) ++ wsX60)
def wsJ9_abs_0f7a4 : List Cond := .code yJ9_abs_0f7a4 cJ9_abs_0f7a4 1 (some .int) :: ([])
def wsJ9_max_7cf53 : List Cond := .code yJ9_max_7cf53 cJ9_max_7cf53 2 (some .int) :: ([])
def wsJ9_min_7cf53 : List Cond := .code yJ9_min_7cf53 cJ9_min_7cf53 2 (some .int) :: ([])
def wsL_build_r1 : List Cond := [Cond.classLink RL 13 "java/lang/IndexOutOfBoundsException", Cond.classLink RL 15 "java/lang/IllegalArgumentException", Cond.classLink RL 17 "java/lang/IllegalStateException", Cond.methodLink RL 7 yX5_build, Cond.instanceMethod yX5_build, Cond.selects RX5 yX5_build yX5_build, Cond.initialized RX5, Cond.code yX5_build cX5_build 6 (some .int), Cond.classLink RX5 54 "java/lang/IllegalStateException", Cond.initialized "java/lang/IllegalStateException", Cond.fieldLink RX5 10 "DroopBoard" "board" "LDroopBoard$Board;", Cond.fieldLink RX5 44 "DroopBoard$Board" "diesels" "[LDroopBoard$Diesel;", Cond.fieldLink RX5 48 "DroopBoard$Diesel" "runs" "Z", Cond.fieldLink RX5 25 "DroopBoard" "history" "LDroopBoard$History;", Cond.fieldLink RX5 65 "DroopBoard$Diesel" "rating" "I", Cond.fieldLink RX5 69 "DroopBoard$Diesel" "droop" "I", Cond.methodLink RX5 36 yX5_needSet, Cond.static yX5_needSet, Cond.code yX5_needSet cX5_needSet 1 none, Cond.classLink RX5 269 "java/lang/IndexOutOfBoundsException", Cond.initialized "java/lang/IndexOutOfBoundsException", Cond.methodLink RX5 265 yX5_isSet, Cond.static yX5_isSet, Cond.code yX5_isSet cX5_isSet 1 (some .boolean)]
def wsL_build_r2 : List Cond := [Cond.methodLink RX5 40 yX5_needRange, Cond.static yX5_needRange, Cond.code yX5_needRange cX5_needRange 3 none, Cond.classLink RX5 168 "java/lang/IllegalArgumentException", Cond.initialized "java/lang/IllegalArgumentException", Cond.methodLink RX5 61 yX3_save, Cond.instanceMethod yX3_save, Cond.selects RX3 yX3_save yX3_save, Cond.initialized RX3, Cond.code yX3_save cX3_save 2 none, Cond.fieldLink RX3 18 "DroopBoard$History" "size" "I", Cond.fieldLink RX3 11 "DroopBoard$History" "states" "[LDroopBoard$Board;", Cond.methodLink RX3 22 yX3_dropOldest, Cond.instanceMethod yX3_dropOldest, Cond.selects RX3 yX3_dropOldest yX3_dropOldest, Cond.code yX3_dropOldest cX3_dropOldest 3 none, Cond.methodLink RX3 25 yX0_copyFrom, Cond.instanceMethod yX0_copyFrom, Cond.selects RX0 yX0_copyFrom yX0_copyFrom, Cond.initialized RX0, Cond.code yX0_copyFrom cX0_copyFrom 3 none, Cond.fieldLink RX0 11 "DroopBoard$Board" "diesels" "[LDroopBoard$Diesel;", Cond.fieldLink RX0 19 "DroopBoard$Board" "feeders" "[LDroopBoard$Feeder;", Cond.fieldLink RX0 23 "DroopBoard$Board" "settings" "[I"]
def wsL_build_r3 : List Cond := [Cond.fieldLink RX0 38 "DroopBoard$Board" "ticks" "I", Cond.fieldLink RX0 42 "DroopBoard$Board" "energy" "I", Cond.methodLink RX0 31 yX1_copyFrom, Cond.instanceMethod yX1_copyFrom, Cond.selects RX1 yX1_copyFrom yX1_copyFrom, Cond.initialized RX1, Cond.code yX1_copyFrom cX1_copyFrom 2 none, Cond.fieldLink RX1 16 "DroopBoard$Diesel" "rating" "I", Cond.fieldLink RX1 7 "DroopBoard$Diesel" "droop" "I", Cond.fieldLink RX1 13 "DroopBoard$Diesel" "speed" "I", Cond.fieldLink RX1 19 "DroopBoard$Diesel" "runs" "Z", Cond.fieldLink RX1 23 "DroopBoard$Diesel" "closed" "Z", Cond.fieldLink RX1 26 "DroopBoard$Diesel" "phase" "I", Cond.fieldLink RX1 29 "DroopBoard$Diesel" "overloaded" "I", Cond.fieldLink RX1 32 "DroopBoard$Diesel" "driven" "I", Cond.fieldLink RX1 35 "DroopBoard$Diesel" "energy" "I", Cond.fieldLink RX1 38 "DroopBoard$Diesel" "trips" "I", Cond.methodLink RX0 35 yX2_copyFrom, Cond.instanceMethod yX2_copyFrom, Cond.selects RX2 yX2_copyFrom yX2_copyFrom, Cond.initialized RX2, Cond.code yX2_copyFrom cX2_copyFrom 2 none, Cond.fieldLink RX2 13 "DroopBoard$Feeder" "load" "I", Cond.fieldLink RX2 7 "DroopBoard$Feeder" "on" "Z"]
def wsL_build_r4 : List Cond := [Cond.fieldLink RX2 17 "DroopBoard$Feeder" "sheds" "I"]
def wsL_build : List Cond := .codeWith yL_build cL_build 6 (some .int) [(0, 12, 15, 13), (0, 12, 19, 15), (0, 12, 23, 17)] :: ((wsL_build_r1 ++ (wsL_build_r2 ++ (wsL_build_r3 ++ wsL_build_r4))) ++ wsX50 ++ wsX00 ++ wsX10 ++ wsX30 ++ wsX20 ++ (vx_atS RX5 58 "java/lang/IllegalStateException" ["java/lang/RuntimeException", "java/lang/Exception"]).filter goodWord ++ (vx_atS RX5 273 "java/lang/IndexOutOfBoundsException" ["java/lang/RuntimeException", "java/lang/Exception"]).filter goodWord ++ (vx_atS RX5 172 "java/lang/IllegalArgumentException" ["java/lang/RuntimeException", "java/lang/Exception"]).filter goodWord)
def wsL_speed_r1 : List Cond := [Cond.classLink RL 13 "java/lang/IndexOutOfBoundsException", Cond.classLink RL 15 "java/lang/IllegalArgumentException", Cond.methodLink RL 19 yX5_speed, Cond.instanceMethod yX5_speed, Cond.selects RX5 yX5_speed yX5_speed, Cond.initialized RX5, Cond.code yX5_speed cX5_speed 4 (some .int), Cond.fieldLink RX5 25 "DroopBoard" "history" "LDroopBoard$History;", Cond.fieldLink RX5 10 "DroopBoard" "board" "LDroopBoard$Board;", Cond.fieldLink RX5 44 "DroopBoard$Board" "diesels" "[LDroopBoard$Diesel;", Cond.fieldLink RX5 72 "DroopBoard$Diesel" "speed" "I", Cond.methodLink RX5 36 yX5_needSet, Cond.static yX5_needSet, Cond.code yX5_needSet cX5_needSet 1 none, Cond.classLink RX5 269 "java/lang/IndexOutOfBoundsException", Cond.initialized "java/lang/IndexOutOfBoundsException", Cond.methodLink RX5 265 yX5_isSet, Cond.static yX5_isSet, Cond.code yX5_isSet cX5_isSet 1 (some .boolean), Cond.methodLink RX5 40 yX5_needRange, Cond.static yX5_needRange, Cond.code yX5_needRange cX5_needRange 3 none, Cond.classLink RX5 168 "java/lang/IllegalArgumentException", Cond.initialized "java/lang/IllegalArgumentException"]
def wsL_speed_r2 : List Cond := [Cond.methodLink RX5 61 yX3_save, Cond.instanceMethod yX3_save, Cond.selects RX3 yX3_save yX3_save, Cond.initialized RX3, Cond.code yX3_save cX3_save 2 none, Cond.fieldLink RX3 18 "DroopBoard$History" "size" "I", Cond.fieldLink RX3 11 "DroopBoard$History" "states" "[LDroopBoard$Board;", Cond.methodLink RX3 22 yX3_dropOldest, Cond.instanceMethod yX3_dropOldest, Cond.selects RX3 yX3_dropOldest yX3_dropOldest, Cond.code yX3_dropOldest cX3_dropOldest 3 none, Cond.methodLink RX3 25 yX0_copyFrom, Cond.instanceMethod yX0_copyFrom, Cond.selects RX0 yX0_copyFrom yX0_copyFrom, Cond.initialized RX0, Cond.code yX0_copyFrom cX0_copyFrom 3 none, Cond.fieldLink RX0 11 "DroopBoard$Board" "diesels" "[LDroopBoard$Diesel;", Cond.fieldLink RX0 19 "DroopBoard$Board" "feeders" "[LDroopBoard$Feeder;", Cond.fieldLink RX0 23 "DroopBoard$Board" "settings" "[I", Cond.fieldLink RX0 38 "DroopBoard$Board" "ticks" "I", Cond.fieldLink RX0 42 "DroopBoard$Board" "energy" "I", Cond.methodLink RX0 31 yX1_copyFrom, Cond.instanceMethod yX1_copyFrom, Cond.selects RX1 yX1_copyFrom yX1_copyFrom]
def wsL_speed_r3 : List Cond := [Cond.initialized RX1, Cond.code yX1_copyFrom cX1_copyFrom 2 none, Cond.fieldLink RX1 16 "DroopBoard$Diesel" "rating" "I", Cond.fieldLink RX1 7 "DroopBoard$Diesel" "droop" "I", Cond.fieldLink RX1 13 "DroopBoard$Diesel" "speed" "I", Cond.fieldLink RX1 19 "DroopBoard$Diesel" "runs" "Z", Cond.fieldLink RX1 23 "DroopBoard$Diesel" "closed" "Z", Cond.fieldLink RX1 26 "DroopBoard$Diesel" "phase" "I", Cond.fieldLink RX1 29 "DroopBoard$Diesel" "overloaded" "I", Cond.fieldLink RX1 32 "DroopBoard$Diesel" "driven" "I", Cond.fieldLink RX1 35 "DroopBoard$Diesel" "energy" "I", Cond.fieldLink RX1 38 "DroopBoard$Diesel" "trips" "I", Cond.methodLink RX0 35 yX2_copyFrom, Cond.instanceMethod yX2_copyFrom, Cond.selects RX2 yX2_copyFrom yX2_copyFrom, Cond.initialized RX2, Cond.code yX2_copyFrom cX2_copyFrom 2 none, Cond.fieldLink RX2 13 "DroopBoard$Feeder" "load" "I", Cond.fieldLink RX2 7 "DroopBoard$Feeder" "on" "Z", Cond.fieldLink RX2 17 "DroopBoard$Feeder" "sheds" "I"]
def wsL_speed : List Cond := .codeWith yL_speed cL_speed 5 (some .int) [(0, 10, 13, 13), (0, 10, 17, 15)] :: ((wsL_speed_r1 ++ (wsL_speed_r2 ++ wsL_speed_r3)) ++ wsX50 ++ wsX00 ++ wsX10 ++ wsX30 ++ wsX20 ++ (vx_atS RX5 273 "java/lang/IndexOutOfBoundsException" ["java/lang/RuntimeException", "java/lang/Exception"]).filter goodWord ++ (vx_atS RX5 172 "java/lang/IllegalArgumentException" ["java/lang/RuntimeException", "java/lang/Exception"]).filter goodWord)
def wsL_run_r1 : List Cond := [Cond.classLink RL 13 "java/lang/IndexOutOfBoundsException", Cond.classLink RL 17 "java/lang/IllegalStateException", Cond.methodLink RL 23 yX5_run, Cond.instanceMethod yX5_run, Cond.selects RX5 yX5_run yX5_run, Cond.initialized RX5, Cond.code yX5_run cX5_run 2 (some .int), Cond.classLink RX5 54 "java/lang/IllegalStateException", Cond.initialized "java/lang/IllegalStateException", Cond.fieldLink RX5 10 "DroopBoard" "board" "LDroopBoard$Board;", Cond.fieldLink RX5 44 "DroopBoard$Board" "diesels" "[LDroopBoard$Diesel;", Cond.fieldLink RX5 25 "DroopBoard" "history" "LDroopBoard$History;", Cond.methodLink RX5 36 yX5_needSet, Cond.static yX5_needSet, Cond.code yX5_needSet cX5_needSet 1 none, Cond.classLink RX5 269 "java/lang/IndexOutOfBoundsException", Cond.initialized "java/lang/IndexOutOfBoundsException", Cond.methodLink RX5 265 yX5_isSet, Cond.static yX5_isSet, Cond.code yX5_isSet cX5_isSet 1 (some .boolean), Cond.methodLink RX5 75 yX1_canStart, Cond.instanceMethod yX1_canStart, Cond.selects RX1 yX1_canStart yX1_canStart, Cond.initialized RX1]
def wsL_run_r2 : List Cond := [Cond.code yX1_canStart cX1_canStart 1 (some .boolean), Cond.fieldLink RX1 19 "DroopBoard$Diesel" "runs" "Z", Cond.methodLink RX5 61 yX3_save, Cond.instanceMethod yX3_save, Cond.selects RX3 yX3_save yX3_save, Cond.initialized RX3, Cond.code yX3_save cX3_save 2 none, Cond.fieldLink RX3 18 "DroopBoard$History" "size" "I", Cond.fieldLink RX3 11 "DroopBoard$History" "states" "[LDroopBoard$Board;", Cond.methodLink RX3 22 yX3_dropOldest, Cond.instanceMethod yX3_dropOldest, Cond.selects RX3 yX3_dropOldest yX3_dropOldest, Cond.code yX3_dropOldest cX3_dropOldest 3 none, Cond.methodLink RX3 25 yX0_copyFrom, Cond.instanceMethod yX0_copyFrom, Cond.selects RX0 yX0_copyFrom yX0_copyFrom, Cond.initialized RX0, Cond.code yX0_copyFrom cX0_copyFrom 3 none, Cond.fieldLink RX0 11 "DroopBoard$Board" "diesels" "[LDroopBoard$Diesel;", Cond.fieldLink RX0 19 "DroopBoard$Board" "feeders" "[LDroopBoard$Feeder;", Cond.fieldLink RX0 23 "DroopBoard$Board" "settings" "[I", Cond.fieldLink RX0 38 "DroopBoard$Board" "ticks" "I", Cond.fieldLink RX0 42 "DroopBoard$Board" "energy" "I", Cond.methodLink RX0 31 yX1_copyFrom]
def wsL_run_r3 : List Cond := [Cond.instanceMethod yX1_copyFrom, Cond.selects RX1 yX1_copyFrom yX1_copyFrom, Cond.code yX1_copyFrom cX1_copyFrom 2 none, Cond.fieldLink RX1 16 "DroopBoard$Diesel" "rating" "I", Cond.fieldLink RX1 7 "DroopBoard$Diesel" "droop" "I", Cond.fieldLink RX1 13 "DroopBoard$Diesel" "speed" "I", Cond.fieldLink RX1 23 "DroopBoard$Diesel" "closed" "Z", Cond.fieldLink RX1 26 "DroopBoard$Diesel" "phase" "I", Cond.fieldLink RX1 29 "DroopBoard$Diesel" "overloaded" "I", Cond.fieldLink RX1 32 "DroopBoard$Diesel" "driven" "I", Cond.fieldLink RX1 35 "DroopBoard$Diesel" "energy" "I", Cond.fieldLink RX1 38 "DroopBoard$Diesel" "trips" "I", Cond.methodLink RX0 35 yX2_copyFrom, Cond.instanceMethod yX2_copyFrom, Cond.selects RX2 yX2_copyFrom yX2_copyFrom, Cond.initialized RX2, Cond.code yX2_copyFrom cX2_copyFrom 2 none, Cond.fieldLink RX2 13 "DroopBoard$Feeder" "load" "I", Cond.fieldLink RX2 7 "DroopBoard$Feeder" "on" "Z", Cond.fieldLink RX2 17 "DroopBoard$Feeder" "sheds" "I", Cond.methodLink RX5 81 yX1_start, Cond.instanceMethod yX1_start, Cond.selects RX1 yX1_start yX1_start, Cond.code yX1_start cX1_start 1 none]
def wsL_run_r4 : List Cond := [Cond.methodLink RX1 41 yX1_beginAnew, Cond.instanceMethod yX1_beginAnew, Cond.selects RX1 yX1_beginAnew yX1_beginAnew, Cond.code yX1_beginAnew cX1_beginAnew 1 none, Cond.methodLink RX5 84 yX0_running, Cond.instanceMethod yX0_running, Cond.selects RX0 yX0_running yX0_running, Cond.code yX0_running cX0_running 3 (some .int), Cond.fieldLink RX0 82 "DroopBoard$Diesel" "runs" "Z", Cond.static yX5_oneIf, Cond.code yX5_oneIf cX5_oneIf 1 (some .int)]
def wsL_run : List Cond := .codeWith yL_run cL_run 4 (some .int) [(0, 9, 12, 13), (0, 9, 15, 17)] :: ((wsL_run_r1 ++ (wsL_run_r2 ++ (wsL_run_r3 ++ wsL_run_r4))) ++ wsX50 ++ wsX00 ++ wsX10 ++ wsX30 ++ wsX20 ++ (vx_atS RX5 58 "java/lang/IllegalStateException" ["java/lang/RuntimeException", "java/lang/Exception"]).filter goodWord ++ (vx_atS RX5 273 "java/lang/IndexOutOfBoundsException" ["java/lang/RuntimeException", "java/lang/Exception"]).filter goodWord)
def wsL_halt_r1 : List Cond := [Cond.classLink RL 13 "java/lang/IndexOutOfBoundsException", Cond.classLink RL 17 "java/lang/IllegalStateException", Cond.methodLink RL 27 yX5_halt, Cond.instanceMethod yX5_halt, Cond.selects RX5 yX5_halt yX5_halt, Cond.initialized RX5, Cond.code yX5_halt cX5_halt 2 (some .int), Cond.classLink RX5 54 "java/lang/IllegalStateException", Cond.initialized "java/lang/IllegalStateException", Cond.fieldLink RX5 10 "DroopBoard" "board" "LDroopBoard$Board;", Cond.fieldLink RX5 44 "DroopBoard$Board" "diesels" "[LDroopBoard$Diesel;", Cond.fieldLink RX5 25 "DroopBoard" "history" "LDroopBoard$History;", Cond.methodLink RX5 36 yX5_needSet, Cond.static yX5_needSet, Cond.code yX5_needSet cX5_needSet 1 none, Cond.classLink RX5 269 "java/lang/IndexOutOfBoundsException", Cond.initialized "java/lang/IndexOutOfBoundsException", Cond.methodLink RX5 265 yX5_isSet, Cond.static yX5_isSet, Cond.code yX5_isSet cX5_isSet 1 (some .boolean), Cond.methodLink RX5 88 yX1_canStop, Cond.instanceMethod yX1_canStop, Cond.selects RX1 yX1_canStop yX1_canStop, Cond.initialized RX1]
def wsL_halt_r2 : List Cond := [Cond.code yX1_canStop cX1_canStop 1 (some .boolean), Cond.fieldLink RX1 19 "DroopBoard$Diesel" "runs" "Z", Cond.fieldLink RX1 23 "DroopBoard$Diesel" "closed" "Z", Cond.methodLink RX5 61 yX3_save, Cond.instanceMethod yX3_save, Cond.selects RX3 yX3_save yX3_save, Cond.initialized RX3, Cond.code yX3_save cX3_save 2 none, Cond.fieldLink RX3 18 "DroopBoard$History" "size" "I", Cond.fieldLink RX3 11 "DroopBoard$History" "states" "[LDroopBoard$Board;", Cond.methodLink RX3 22 yX3_dropOldest, Cond.instanceMethod yX3_dropOldest, Cond.selects RX3 yX3_dropOldest yX3_dropOldest, Cond.code yX3_dropOldest cX3_dropOldest 3 none, Cond.methodLink RX3 25 yX0_copyFrom, Cond.instanceMethod yX0_copyFrom, Cond.selects RX0 yX0_copyFrom yX0_copyFrom, Cond.initialized RX0, Cond.code yX0_copyFrom cX0_copyFrom 3 none, Cond.fieldLink RX0 11 "DroopBoard$Board" "diesels" "[LDroopBoard$Diesel;", Cond.fieldLink RX0 19 "DroopBoard$Board" "feeders" "[LDroopBoard$Feeder;", Cond.fieldLink RX0 23 "DroopBoard$Board" "settings" "[I", Cond.fieldLink RX0 38 "DroopBoard$Board" "ticks" "I", Cond.fieldLink RX0 42 "DroopBoard$Board" "energy" "I"]
def wsL_halt_r3 : List Cond := [Cond.methodLink RX0 31 yX1_copyFrom, Cond.instanceMethod yX1_copyFrom, Cond.selects RX1 yX1_copyFrom yX1_copyFrom, Cond.code yX1_copyFrom cX1_copyFrom 2 none, Cond.fieldLink RX1 16 "DroopBoard$Diesel" "rating" "I", Cond.fieldLink RX1 7 "DroopBoard$Diesel" "droop" "I", Cond.fieldLink RX1 13 "DroopBoard$Diesel" "speed" "I", Cond.fieldLink RX1 26 "DroopBoard$Diesel" "phase" "I", Cond.fieldLink RX1 29 "DroopBoard$Diesel" "overloaded" "I", Cond.fieldLink RX1 32 "DroopBoard$Diesel" "driven" "I", Cond.fieldLink RX1 35 "DroopBoard$Diesel" "energy" "I", Cond.fieldLink RX1 38 "DroopBoard$Diesel" "trips" "I", Cond.methodLink RX0 35 yX2_copyFrom, Cond.instanceMethod yX2_copyFrom, Cond.selects RX2 yX2_copyFrom yX2_copyFrom, Cond.initialized RX2, Cond.code yX2_copyFrom cX2_copyFrom 2 none, Cond.fieldLink RX2 13 "DroopBoard$Feeder" "load" "I", Cond.fieldLink RX2 7 "DroopBoard$Feeder" "on" "Z", Cond.fieldLink RX2 17 "DroopBoard$Feeder" "sheds" "I", Cond.methodLink RX5 93 yX1_stop, Cond.instanceMethod yX1_stop, Cond.selects RX1 yX1_stop yX1_stop, Cond.code yX1_stop cX1_stop 1 none]
def wsL_halt_r4 : List Cond := [Cond.methodLink RX1 41 yX1_beginAnew, Cond.instanceMethod yX1_beginAnew, Cond.selects RX1 yX1_beginAnew yX1_beginAnew, Cond.code yX1_beginAnew cX1_beginAnew 1 none, Cond.methodLink RX5 84 yX0_running, Cond.instanceMethod yX0_running, Cond.selects RX0 yX0_running yX0_running, Cond.code yX0_running cX0_running 3 (some .int), Cond.fieldLink RX0 82 "DroopBoard$Diesel" "runs" "Z", Cond.static yX5_oneIf, Cond.code yX5_oneIf cX5_oneIf 1 (some .int)]
def wsL_halt : List Cond := .codeWith yL_halt cL_halt 4 (some .int) [(0, 9, 12, 13), (0, 9, 15, 17)] :: ((wsL_halt_r1 ++ (wsL_halt_r2 ++ (wsL_halt_r3 ++ wsL_halt_r4))) ++ wsX50 ++ wsX00 ++ wsX10 ++ wsX30 ++ wsX20 ++ (vx_atS RX5 58 "java/lang/IllegalStateException" ["java/lang/RuntimeException", "java/lang/Exception"]).filter goodWord ++ (vx_atS RX5 273 "java/lang/IndexOutOfBoundsException" ["java/lang/RuntimeException", "java/lang/Exception"]).filter goodWord)
def wsL_close_r1 : List Cond := [Cond.classLink RL 13 "java/lang/IndexOutOfBoundsException", Cond.classLink RL 17 "java/lang/IllegalStateException", Cond.methodLink RL 30 yX5_close, Cond.instanceMethod yX5_close, Cond.selects RX5 yX5_close yX5_close, Cond.initialized RX5, Cond.code yX5_close cX5_close 2 (some .int), Cond.classLink RX5 54 "java/lang/IllegalStateException", Cond.initialized "java/lang/IllegalStateException", Cond.fieldLink RX5 10 "DroopBoard" "board" "LDroopBoard$Board;", Cond.fieldLink RX5 25 "DroopBoard" "history" "LDroopBoard$History;", Cond.fieldLink RX5 44 "DroopBoard$Board" "diesels" "[LDroopBoard$Diesel;", Cond.methodLink RX5 36 yX5_needSet, Cond.static yX5_needSet, Cond.code yX5_needSet cX5_needSet 1 none, Cond.classLink RX5 269 "java/lang/IndexOutOfBoundsException", Cond.initialized "java/lang/IndexOutOfBoundsException", Cond.methodLink RX5 265 yX5_isSet, Cond.static yX5_isSet, Cond.code yX5_isSet cX5_isSet 1 (some .boolean), Cond.methodLink RX5 96 yX0_whyNotClosed, Cond.instanceMethod yX0_whyNotClosed, Cond.selects RX0 yX0_whyNotClosed yX0_whyNotClosed, Cond.initialized RX0]
def wsL_close_r2 : List Cond := [Cond.code yX0_whyNotClosed cX0_whyNotClosed 3 (some .int), Cond.fieldLink RX0 11 "DroopBoard$Board" "diesels" "[LDroopBoard$Diesel;", Cond.fieldLink RX0 82 "DroopBoard$Diesel" "runs" "Z", Cond.fieldLink RX0 45 "DroopBoard$Diesel" "closed" "Z", Cond.fieldLink RX0 85 "DroopBoard$Diesel" "speed" "I", Cond.methodLink RX0 91 Lib.Math.abs.name, Cond.static Lib.Math.abs.name, Cond.initialized "java/lang/Math", Cond.code Lib.Math.abs.name Lib.Math.abs.code 1 (some .int), Cond.fieldLink RX0 23 "DroopBoard$Board" "settings" "[I", Cond.methodLink RX0 49 yX0_alive, Cond.instanceMethod yX0_alive, Cond.selects RX0 yX0_alive yX0_alive, Cond.code yX0_alive cX0_alive 2 (some .boolean), Cond.methodLink RX0 88 yX0_frequency, Cond.instanceMethod yX0_frequency, Cond.selects RX0 yX0_frequency yX0_frequency, Cond.code yX0_frequency cX0_frequency 6 (some .int), Cond.methodLink RX0 63 yX0_demand, Cond.instanceMethod yX0_demand, Cond.selects RX0 yX0_demand yX0_demand, Cond.code yX0_demand cX0_demand 3 (some .int), Cond.fieldLink RX0 19 "DroopBoard$Board" "feeders" "[LDroopBoard$Feeder;", Cond.fieldLink RX0 53 "DroopBoard$Feeder" "on" "Z"]
def wsL_close_r3 : List Cond := [Cond.fieldLink RX0 56 "DroopBoard$Feeder" "load" "I", Cond.methodLink RX0 67 yX0_total, Cond.instanceMethod yX0_total, Cond.selects RX0 yX0_total yX0_total, Cond.code yX0_total cX0_total 4 (some .int), Cond.methodLink RX0 59 yX1_gives, Cond.instanceMethod yX1_gives, Cond.selects RX1 yX1_gives yX1_gives, Cond.initialized RX1, Cond.code yX1_gives cX1_gives 2 (some .int), Cond.fieldLink RX1 23 "DroopBoard$Diesel" "closed" "Z", Cond.fieldLink RX1 7 "DroopBoard$Diesel" "droop" "I", Cond.fieldLink RX1 13 "DroopBoard$Diesel" "speed" "I", Cond.fieldLink RX1 16 "DroopBoard$Diesel" "rating" "I", Cond.methodLink RX0 94 yX1_lamps, Cond.instanceMethod yX1_lamps, Cond.selects RX1 yX1_lamps yX1_lamps, Cond.code yX1_lamps cX1_lamps 1 (some .int), Cond.fieldLink RX1 26 "DroopBoard$Diesel" "phase" "I", Cond.methodLink RX1 44 Lib.Math.min.name, Cond.static Lib.Math.min.name, Cond.code Lib.Math.min.name Lib.Math.min.code 2 (some .int), Cond.methodLink RX5 61 yX3_save, Cond.instanceMethod yX3_save]
def wsL_close_r4 : List Cond := [Cond.selects RX3 yX3_save yX3_save, Cond.initialized RX3, Cond.code yX3_save cX3_save 2 none, Cond.fieldLink RX3 18 "DroopBoard$History" "size" "I", Cond.fieldLink RX3 11 "DroopBoard$History" "states" "[LDroopBoard$Board;", Cond.methodLink RX3 22 yX3_dropOldest, Cond.instanceMethod yX3_dropOldest, Cond.selects RX3 yX3_dropOldest yX3_dropOldest, Cond.code yX3_dropOldest cX3_dropOldest 3 none, Cond.methodLink RX3 25 yX0_copyFrom, Cond.instanceMethod yX0_copyFrom, Cond.selects RX0 yX0_copyFrom yX0_copyFrom, Cond.code yX0_copyFrom cX0_copyFrom 3 none, Cond.fieldLink RX0 38 "DroopBoard$Board" "ticks" "I", Cond.fieldLink RX0 42 "DroopBoard$Board" "energy" "I", Cond.methodLink RX0 31 yX1_copyFrom, Cond.instanceMethod yX1_copyFrom, Cond.selects RX1 yX1_copyFrom yX1_copyFrom, Cond.code yX1_copyFrom cX1_copyFrom 2 none, Cond.fieldLink RX1 19 "DroopBoard$Diesel" "runs" "Z", Cond.fieldLink RX1 29 "DroopBoard$Diesel" "overloaded" "I", Cond.fieldLink RX1 32 "DroopBoard$Diesel" "driven" "I", Cond.fieldLink RX1 35 "DroopBoard$Diesel" "energy" "I", Cond.fieldLink RX1 38 "DroopBoard$Diesel" "trips" "I"]
def wsL_close_r5 : List Cond := [Cond.methodLink RX0 35 yX2_copyFrom, Cond.instanceMethod yX2_copyFrom, Cond.selects RX2 yX2_copyFrom yX2_copyFrom, Cond.initialized RX2, Cond.code yX2_copyFrom cX2_copyFrom 2 none, Cond.fieldLink RX2 13 "DroopBoard$Feeder" "load" "I", Cond.fieldLink RX2 7 "DroopBoard$Feeder" "on" "Z", Cond.fieldLink RX2 17 "DroopBoard$Feeder" "sheds" "I", Cond.methodLink RX5 102 yX1_closeBreaker, Cond.instanceMethod yX1_closeBreaker, Cond.selects RX1 yX1_closeBreaker yX1_closeBreaker, Cond.code yX1_closeBreaker cX1_closeBreaker 1 none, Cond.methodLink RX1 41 yX1_beginAnew, Cond.instanceMethod yX1_beginAnew, Cond.selects RX1 yX1_beginAnew yX1_beginAnew, Cond.code yX1_beginAnew cX1_beginAnew 1 none, Cond.methodLink RX5 105 yX0_frequency]
def wsL_close : List Cond := .codeWith yL_close cL_close 4 (some .int) [(0, 9, 12, 13), (0, 9, 15, 17)] :: ((wsL_close_r1 ++ (wsL_close_r2 ++ (wsL_close_r3 ++ (wsL_close_r4 ++ wsL_close_r5)))) ++ wsX50 ++ wsX00 ++ wsX10 ++ wsX20 ++ wsX30 ++ (vx_atS RX5 58 "java/lang/IllegalStateException" ["java/lang/RuntimeException", "java/lang/Exception"]).filter goodWord ++ (vx_atS RX5 273 "java/lang/IndexOutOfBoundsException" ["java/lang/RuntimeException", "java/lang/Exception"]).filter goodWord)
def wsL_open_r1 : List Cond := [Cond.classLink RL 13 "java/lang/IndexOutOfBoundsException", Cond.classLink RL 17 "java/lang/IllegalStateException", Cond.methodLink RL 33 yX5_open, Cond.instanceMethod yX5_open, Cond.selects RX5 yX5_open yX5_open, Cond.initialized RX5, Cond.code yX5_open cX5_open 2 (some .int), Cond.classLink RX5 54 "java/lang/IllegalStateException", Cond.initialized "java/lang/IllegalStateException", Cond.fieldLink RX5 10 "DroopBoard" "board" "LDroopBoard$Board;", Cond.fieldLink RX5 44 "DroopBoard$Board" "diesels" "[LDroopBoard$Diesel;", Cond.fieldLink RX5 108 "DroopBoard$Diesel" "closed" "Z", Cond.fieldLink RX5 25 "DroopBoard" "history" "LDroopBoard$History;", Cond.methodLink RX5 36 yX5_needSet, Cond.static yX5_needSet, Cond.code yX5_needSet cX5_needSet 1 none, Cond.classLink RX5 269 "java/lang/IndexOutOfBoundsException", Cond.initialized "java/lang/IndexOutOfBoundsException", Cond.methodLink RX5 265 yX5_isSet, Cond.static yX5_isSet, Cond.code yX5_isSet cX5_isSet 1 (some .boolean), Cond.methodLink RX5 61 yX3_save, Cond.instanceMethod yX3_save, Cond.selects RX3 yX3_save yX3_save]
def wsL_open_r2 : List Cond := [Cond.initialized RX3, Cond.code yX3_save cX3_save 2 none, Cond.fieldLink RX3 18 "DroopBoard$History" "size" "I", Cond.fieldLink RX3 11 "DroopBoard$History" "states" "[LDroopBoard$Board;", Cond.methodLink RX3 22 yX3_dropOldest, Cond.instanceMethod yX3_dropOldest, Cond.selects RX3 yX3_dropOldest yX3_dropOldest, Cond.code yX3_dropOldest cX3_dropOldest 3 none, Cond.methodLink RX3 25 yX0_copyFrom, Cond.instanceMethod yX0_copyFrom, Cond.selects RX0 yX0_copyFrom yX0_copyFrom, Cond.initialized RX0, Cond.code yX0_copyFrom cX0_copyFrom 3 none, Cond.fieldLink RX0 11 "DroopBoard$Board" "diesels" "[LDroopBoard$Diesel;", Cond.fieldLink RX0 19 "DroopBoard$Board" "feeders" "[LDroopBoard$Feeder;", Cond.fieldLink RX0 23 "DroopBoard$Board" "settings" "[I", Cond.fieldLink RX0 38 "DroopBoard$Board" "ticks" "I", Cond.fieldLink RX0 42 "DroopBoard$Board" "energy" "I", Cond.methodLink RX0 31 yX1_copyFrom, Cond.instanceMethod yX1_copyFrom, Cond.selects RX1 yX1_copyFrom yX1_copyFrom, Cond.initialized RX1, Cond.code yX1_copyFrom cX1_copyFrom 2 none, Cond.fieldLink RX1 16 "DroopBoard$Diesel" "rating" "I"]
def wsL_open_r3 : List Cond := [Cond.fieldLink RX1 7 "DroopBoard$Diesel" "droop" "I", Cond.fieldLink RX1 13 "DroopBoard$Diesel" "speed" "I", Cond.fieldLink RX1 19 "DroopBoard$Diesel" "runs" "Z", Cond.fieldLink RX1 23 "DroopBoard$Diesel" "closed" "Z", Cond.fieldLink RX1 26 "DroopBoard$Diesel" "phase" "I", Cond.fieldLink RX1 29 "DroopBoard$Diesel" "overloaded" "I", Cond.fieldLink RX1 32 "DroopBoard$Diesel" "driven" "I", Cond.fieldLink RX1 35 "DroopBoard$Diesel" "energy" "I", Cond.fieldLink RX1 38 "DroopBoard$Diesel" "trips" "I", Cond.methodLink RX0 35 yX2_copyFrom, Cond.instanceMethod yX2_copyFrom, Cond.selects RX2 yX2_copyFrom yX2_copyFrom, Cond.initialized RX2, Cond.code yX2_copyFrom cX2_copyFrom 2 none, Cond.fieldLink RX2 13 "DroopBoard$Feeder" "load" "I", Cond.fieldLink RX2 7 "DroopBoard$Feeder" "on" "Z", Cond.fieldLink RX2 17 "DroopBoard$Feeder" "sheds" "I", Cond.methodLink RX5 113 yX1_openBreaker, Cond.instanceMethod yX1_openBreaker, Cond.selects RX1 yX1_openBreaker yX1_openBreaker, Cond.code yX1_openBreaker cX1_openBreaker 1 none, Cond.methodLink RX1 41 yX1_beginAnew, Cond.instanceMethod yX1_beginAnew, Cond.selects RX1 yX1_beginAnew yX1_beginAnew]
def wsL_open_r4 : List Cond := [Cond.code yX1_beginAnew cX1_beginAnew 1 none, Cond.methodLink RX5 105 yX0_frequency, Cond.instanceMethod yX0_frequency, Cond.selects RX0 yX0_frequency yX0_frequency, Cond.code yX0_frequency cX0_frequency 6 (some .int), Cond.methodLink RX0 49 yX0_alive, Cond.instanceMethod yX0_alive, Cond.selects RX0 yX0_alive yX0_alive, Cond.code yX0_alive cX0_alive 2 (some .boolean), Cond.fieldLink RX0 45 "DroopBoard$Diesel" "closed" "Z", Cond.methodLink RX0 63 yX0_demand, Cond.instanceMethod yX0_demand, Cond.selects RX0 yX0_demand yX0_demand, Cond.code yX0_demand cX0_demand 3 (some .int), Cond.fieldLink RX0 53 "DroopBoard$Feeder" "on" "Z", Cond.fieldLink RX0 56 "DroopBoard$Feeder" "load" "I", Cond.methodLink RX0 67 yX0_total, Cond.instanceMethod yX0_total, Cond.selects RX0 yX0_total yX0_total, Cond.code yX0_total cX0_total 4 (some .int), Cond.methodLink RX0 59 yX1_gives, Cond.instanceMethod yX1_gives, Cond.selects RX1 yX1_gives yX1_gives, Cond.code yX1_gives cX1_gives 2 (some .int)]
def wsL_open : List Cond := .codeWith yL_open cL_open 4 (some .int) [(0, 9, 12, 13), (0, 9, 15, 17)] :: ((wsL_open_r1 ++ (wsL_open_r2 ++ (wsL_open_r3 ++ wsL_open_r4))) ++ wsX50 ++ wsX00 ++ wsX10 ++ wsX30 ++ wsX20 ++ (vx_atS RX5 58 "java/lang/IllegalStateException" ["java/lang/RuntimeException", "java/lang/Exception"]).filter goodWord ++ (vx_atS RX5 273 "java/lang/IndexOutOfBoundsException" ["java/lang/RuntimeException", "java/lang/Exception"]).filter goodWord)
def wsL_load_r1 : List Cond := [Cond.classLink RL 13 "java/lang/IndexOutOfBoundsException", Cond.classLink RL 15 "java/lang/IllegalArgumentException", Cond.methodLink RL 36 yX5_load, Cond.instanceMethod yX5_load, Cond.selects RX5 yX5_load yX5_load, Cond.initialized RX5, Cond.code yX5_load cX5_load 4 (some .int), Cond.fieldLink RX5 25 "DroopBoard" "history" "LDroopBoard$History;", Cond.fieldLink RX5 10 "DroopBoard" "board" "LDroopBoard$Board;", Cond.fieldLink RX5 119 "DroopBoard$Board" "feeders" "[LDroopBoard$Feeder;", Cond.fieldLink RX5 123 "DroopBoard$Feeder" "load" "I", Cond.methodLink RX5 116 yX5_needFeeder, Cond.static yX5_needFeeder, Cond.code yX5_needFeeder cX5_needFeeder 1 none, Cond.classLink RX5 269 "java/lang/IndexOutOfBoundsException", Cond.initialized "java/lang/IndexOutOfBoundsException", Cond.methodLink RX5 274 yX5_isFeeder, Cond.static yX5_isFeeder, Cond.code yX5_isFeeder cX5_isFeeder 1 (some .boolean), Cond.methodLink RX5 40 yX5_needRange, Cond.static yX5_needRange, Cond.code yX5_needRange cX5_needRange 3 none, Cond.classLink RX5 168 "java/lang/IllegalArgumentException", Cond.initialized "java/lang/IllegalArgumentException"]
def wsL_load_r2 : List Cond := [Cond.methodLink RX5 61 yX3_save, Cond.instanceMethod yX3_save, Cond.selects RX3 yX3_save yX3_save, Cond.initialized RX3, Cond.code yX3_save cX3_save 2 none, Cond.fieldLink RX3 18 "DroopBoard$History" "size" "I", Cond.fieldLink RX3 11 "DroopBoard$History" "states" "[LDroopBoard$Board;", Cond.methodLink RX3 22 yX3_dropOldest, Cond.instanceMethod yX3_dropOldest, Cond.selects RX3 yX3_dropOldest yX3_dropOldest, Cond.code yX3_dropOldest cX3_dropOldest 3 none, Cond.methodLink RX3 25 yX0_copyFrom, Cond.instanceMethod yX0_copyFrom, Cond.selects RX0 yX0_copyFrom yX0_copyFrom, Cond.initialized RX0, Cond.code yX0_copyFrom cX0_copyFrom 3 none, Cond.fieldLink RX0 11 "DroopBoard$Board" "diesels" "[LDroopBoard$Diesel;", Cond.fieldLink RX0 19 "DroopBoard$Board" "feeders" "[LDroopBoard$Feeder;", Cond.fieldLink RX0 23 "DroopBoard$Board" "settings" "[I", Cond.fieldLink RX0 38 "DroopBoard$Board" "ticks" "I", Cond.fieldLink RX0 42 "DroopBoard$Board" "energy" "I", Cond.methodLink RX0 31 yX1_copyFrom, Cond.instanceMethod yX1_copyFrom, Cond.selects RX1 yX1_copyFrom yX1_copyFrom]
def wsL_load_r3 : List Cond := [Cond.initialized RX1, Cond.code yX1_copyFrom cX1_copyFrom 2 none, Cond.fieldLink RX1 16 "DroopBoard$Diesel" "rating" "I", Cond.fieldLink RX1 7 "DroopBoard$Diesel" "droop" "I", Cond.fieldLink RX1 13 "DroopBoard$Diesel" "speed" "I", Cond.fieldLink RX1 19 "DroopBoard$Diesel" "runs" "Z", Cond.fieldLink RX1 23 "DroopBoard$Diesel" "closed" "Z", Cond.fieldLink RX1 26 "DroopBoard$Diesel" "phase" "I", Cond.fieldLink RX1 29 "DroopBoard$Diesel" "overloaded" "I", Cond.fieldLink RX1 32 "DroopBoard$Diesel" "driven" "I", Cond.fieldLink RX1 35 "DroopBoard$Diesel" "energy" "I", Cond.fieldLink RX1 38 "DroopBoard$Diesel" "trips" "I", Cond.methodLink RX0 35 yX2_copyFrom, Cond.instanceMethod yX2_copyFrom, Cond.selects RX2 yX2_copyFrom yX2_copyFrom, Cond.initialized RX2, Cond.code yX2_copyFrom cX2_copyFrom 2 none, Cond.fieldLink RX2 13 "DroopBoard$Feeder" "load" "I", Cond.fieldLink RX2 7 "DroopBoard$Feeder" "on" "Z", Cond.fieldLink RX2 17 "DroopBoard$Feeder" "sheds" "I"]
def wsL_load : List Cond := .codeWith yL_load cL_load 5 (some .int) [(0, 10, 13, 13), (0, 10, 17, 15)] :: ((wsL_load_r1 ++ (wsL_load_r2 ++ wsL_load_r3)) ++ wsX50 ++ wsX00 ++ wsX20 ++ wsX30 ++ wsX10 ++ (vx_atS RX5 273 "java/lang/IndexOutOfBoundsException" ["java/lang/RuntimeException", "java/lang/Exception"]).filter goodWord ++ (vx_atS RX5 172 "java/lang/IllegalArgumentException" ["java/lang/RuntimeException", "java/lang/Exception"]).filter goodWord)
def wsL_feeder_r1 : List Cond := [Cond.classLink RL 13 "java/lang/IndexOutOfBoundsException", Cond.classLink RL 15 "java/lang/IllegalArgumentException", Cond.methodLink RL 39 yX5_feeder, Cond.instanceMethod yX5_feeder, Cond.selects RX5 yX5_feeder yX5_feeder, Cond.initialized RX5, Cond.code yX5_feeder cX5_feeder 4 (some .int), Cond.fieldLink RX5 25 "DroopBoard" "history" "LDroopBoard$History;", Cond.fieldLink RX5 10 "DroopBoard" "board" "LDroopBoard$Board;", Cond.fieldLink RX5 119 "DroopBoard$Board" "feeders" "[LDroopBoard$Feeder;", Cond.fieldLink RX5 128 "DroopBoard$Feeder" "on" "Z", Cond.methodLink RX5 116 yX5_needFeeder, Cond.static yX5_needFeeder, Cond.code yX5_needFeeder cX5_needFeeder 1 none, Cond.classLink RX5 269 "java/lang/IndexOutOfBoundsException", Cond.initialized "java/lang/IndexOutOfBoundsException", Cond.methodLink RX5 274 yX5_isFeeder, Cond.static yX5_isFeeder, Cond.code yX5_isFeeder cX5_isFeeder 1 (some .boolean), Cond.methodLink RX5 40 yX5_needRange, Cond.static yX5_needRange, Cond.code yX5_needRange cX5_needRange 3 none, Cond.classLink RX5 168 "java/lang/IllegalArgumentException", Cond.initialized "java/lang/IllegalArgumentException"]
def wsL_feeder_r2 : List Cond := [Cond.methodLink RX5 61 yX3_save, Cond.instanceMethod yX3_save, Cond.selects RX3 yX3_save yX3_save, Cond.initialized RX3, Cond.code yX3_save cX3_save 2 none, Cond.fieldLink RX3 18 "DroopBoard$History" "size" "I", Cond.fieldLink RX3 11 "DroopBoard$History" "states" "[LDroopBoard$Board;", Cond.methodLink RX3 22 yX3_dropOldest, Cond.instanceMethod yX3_dropOldest, Cond.selects RX3 yX3_dropOldest yX3_dropOldest, Cond.code yX3_dropOldest cX3_dropOldest 3 none, Cond.methodLink RX3 25 yX0_copyFrom, Cond.instanceMethod yX0_copyFrom, Cond.selects RX0 yX0_copyFrom yX0_copyFrom, Cond.initialized RX0, Cond.code yX0_copyFrom cX0_copyFrom 3 none, Cond.fieldLink RX0 11 "DroopBoard$Board" "diesels" "[LDroopBoard$Diesel;", Cond.fieldLink RX0 19 "DroopBoard$Board" "feeders" "[LDroopBoard$Feeder;", Cond.fieldLink RX0 23 "DroopBoard$Board" "settings" "[I", Cond.fieldLink RX0 38 "DroopBoard$Board" "ticks" "I", Cond.fieldLink RX0 42 "DroopBoard$Board" "energy" "I", Cond.methodLink RX0 31 yX1_copyFrom, Cond.instanceMethod yX1_copyFrom, Cond.selects RX1 yX1_copyFrom yX1_copyFrom]
def wsL_feeder_r3 : List Cond := [Cond.initialized RX1, Cond.code yX1_copyFrom cX1_copyFrom 2 none, Cond.fieldLink RX1 16 "DroopBoard$Diesel" "rating" "I", Cond.fieldLink RX1 7 "DroopBoard$Diesel" "droop" "I", Cond.fieldLink RX1 13 "DroopBoard$Diesel" "speed" "I", Cond.fieldLink RX1 19 "DroopBoard$Diesel" "runs" "Z", Cond.fieldLink RX1 23 "DroopBoard$Diesel" "closed" "Z", Cond.fieldLink RX1 26 "DroopBoard$Diesel" "phase" "I", Cond.fieldLink RX1 29 "DroopBoard$Diesel" "overloaded" "I", Cond.fieldLink RX1 32 "DroopBoard$Diesel" "driven" "I", Cond.fieldLink RX1 35 "DroopBoard$Diesel" "energy" "I", Cond.fieldLink RX1 38 "DroopBoard$Diesel" "trips" "I", Cond.methodLink RX0 35 yX2_copyFrom, Cond.instanceMethod yX2_copyFrom, Cond.selects RX2 yX2_copyFrom yX2_copyFrom, Cond.initialized RX2, Cond.code yX2_copyFrom cX2_copyFrom 2 none, Cond.fieldLink RX2 13 "DroopBoard$Feeder" "load" "I", Cond.fieldLink RX2 7 "DroopBoard$Feeder" "on" "Z", Cond.fieldLink RX2 17 "DroopBoard$Feeder" "sheds" "I", Cond.methodLink RX5 131 yX5_oneIf, Cond.static yX5_oneIf, Cond.code yX5_oneIf cX5_oneIf 1 (some .int)]
def wsL_feeder : List Cond := .codeWith yL_feeder cL_feeder 5 (some .int) [(0, 10, 13, 13), (0, 10, 17, 15)] :: ((wsL_feeder_r1 ++ (wsL_feeder_r2 ++ wsL_feeder_r3)) ++ wsX50 ++ wsX00 ++ wsX20 ++ wsX30 ++ wsX10 ++ (vx_atS RX5 273 "java/lang/IndexOutOfBoundsException" ["java/lang/RuntimeException", "java/lang/Exception"]).filter goodWord ++ (vx_atS RX5 172 "java/lang/IllegalArgumentException" ["java/lang/RuntimeException", "java/lang/Exception"]).filter goodWord)
def wsL_pass_r1 : List Cond := [Cond.classLink RL 15 "java/lang/IllegalArgumentException", Cond.methodLink RL 42 yX5_pass, Cond.instanceMethod yX5_pass, Cond.selects RX5 yX5_pass yX5_pass, Cond.initialized RX5, Cond.code yX5_pass cX5_pass 2 (some .int), Cond.fieldLink RX5 25 "DroopBoard" "history" "LDroopBoard$History;", Cond.fieldLink RX5 10 "DroopBoard" "board" "LDroopBoard$Board;", Cond.methodLink RX5 40 yX5_needRange, Cond.static yX5_needRange, Cond.code yX5_needRange cX5_needRange 3 none, Cond.classLink RX5 168 "java/lang/IllegalArgumentException", Cond.initialized "java/lang/IllegalArgumentException", Cond.methodLink RX5 61 yX3_save, Cond.instanceMethod yX3_save, Cond.selects RX3 yX3_save yX3_save, Cond.initialized RX3, Cond.code yX3_save cX3_save 2 none, Cond.fieldLink RX3 18 "DroopBoard$History" "size" "I", Cond.fieldLink RX3 11 "DroopBoard$History" "states" "[LDroopBoard$Board;", Cond.methodLink RX3 22 yX3_dropOldest, Cond.instanceMethod yX3_dropOldest, Cond.selects RX3 yX3_dropOldest yX3_dropOldest, Cond.code yX3_dropOldest cX3_dropOldest 3 none]
def wsL_pass_r2 : List Cond := [Cond.methodLink RX3 25 yX0_copyFrom, Cond.instanceMethod yX0_copyFrom, Cond.selects RX0 yX0_copyFrom yX0_copyFrom, Cond.initialized RX0, Cond.code yX0_copyFrom cX0_copyFrom 3 none, Cond.fieldLink RX0 11 "DroopBoard$Board" "diesels" "[LDroopBoard$Diesel;", Cond.fieldLink RX0 19 "DroopBoard$Board" "feeders" "[LDroopBoard$Feeder;", Cond.fieldLink RX0 23 "DroopBoard$Board" "settings" "[I", Cond.fieldLink RX0 38 "DroopBoard$Board" "ticks" "I", Cond.fieldLink RX0 42 "DroopBoard$Board" "energy" "I", Cond.methodLink RX0 31 yX1_copyFrom, Cond.instanceMethod yX1_copyFrom, Cond.selects RX1 yX1_copyFrom yX1_copyFrom, Cond.initialized RX1, Cond.code yX1_copyFrom cX1_copyFrom 2 none, Cond.fieldLink RX1 16 "DroopBoard$Diesel" "rating" "I", Cond.fieldLink RX1 7 "DroopBoard$Diesel" "droop" "I", Cond.fieldLink RX1 13 "DroopBoard$Diesel" "speed" "I", Cond.fieldLink RX1 19 "DroopBoard$Diesel" "runs" "Z", Cond.fieldLink RX1 23 "DroopBoard$Diesel" "closed" "Z", Cond.fieldLink RX1 26 "DroopBoard$Diesel" "phase" "I", Cond.fieldLink RX1 29 "DroopBoard$Diesel" "overloaded" "I", Cond.fieldLink RX1 32 "DroopBoard$Diesel" "driven" "I", Cond.fieldLink RX1 35 "DroopBoard$Diesel" "energy" "I"]
def wsL_pass_r3 : List Cond := [Cond.fieldLink RX1 38 "DroopBoard$Diesel" "trips" "I", Cond.methodLink RX0 35 yX2_copyFrom, Cond.instanceMethod yX2_copyFrom, Cond.selects RX2 yX2_copyFrom yX2_copyFrom, Cond.initialized RX2, Cond.code yX2_copyFrom cX2_copyFrom 2 none, Cond.fieldLink RX2 13 "DroopBoard$Feeder" "load" "I", Cond.fieldLink RX2 7 "DroopBoard$Feeder" "on" "Z", Cond.fieldLink RX2 17 "DroopBoard$Feeder" "sheds" "I", Cond.methodLink RX5 135 yX0_passTicks, Cond.instanceMethod yX0_passTicks, Cond.selects RX0 yX0_passTicks yX0_passTicks, Cond.code yX0_passTicks cX0_passTicks 4 (some .int), Cond.methodLink RX0 97 yX0_tick, Cond.instanceMethod yX0_tick, Cond.selects RX0 yX0_tick yX0_tick, Cond.code yX0_tick cX0_tick 4 (some .int), Cond.methodLink RX0 88 yX0_frequency, Cond.instanceMethod yX0_frequency, Cond.selects RX0 yX0_frequency yX0_frequency, Cond.code yX0_frequency cX0_frequency 6 (some .int), Cond.methodLink RX0 49 yX0_alive, Cond.instanceMethod yX0_alive, Cond.selects RX0 yX0_alive yX0_alive]
def wsL_pass_r4 : List Cond := [Cond.code yX0_alive cX0_alive 2 (some .boolean), Cond.fieldLink RX0 45 "DroopBoard$Diesel" "closed" "Z", Cond.methodLink RX0 63 yX0_demand, Cond.instanceMethod yX0_demand, Cond.selects RX0 yX0_demand yX0_demand, Cond.code yX0_demand cX0_demand 3 (some .int), Cond.fieldLink RX0 53 "DroopBoard$Feeder" "on" "Z", Cond.fieldLink RX0 56 "DroopBoard$Feeder" "load" "I", Cond.methodLink RX0 67 yX0_total, Cond.instanceMethod yX0_total, Cond.selects RX0 yX0_total yX0_total, Cond.code yX0_total cX0_total 4 (some .int), Cond.methodLink RX0 59 yX1_gives, Cond.instanceMethod yX1_gives, Cond.selects RX1 yX1_gives yX1_gives, Cond.code yX1_gives cX1_gives 2 (some .int), Cond.methodLink RX0 100 yX0_lack, Cond.instanceMethod yX0_lack, Cond.selects RX0 yX0_lack yX0_lack, Cond.code yX0_lack cX0_lack 2 (some .int), Cond.methodLink RX0 73 Lib.Math.max.name, Cond.static Lib.Math.max.name, Cond.initialized "java/lang/Math", Cond.code Lib.Math.max.name Lib.Math.max.code 2 (some .int)]
def wsL_pass_r5 : List Cond := [Cond.methodLink RX0 79 yX0_power, Cond.instanceMethod yX0_power, Cond.selects RX0 yX0_power yX0_power, Cond.code yX0_power cX0_power 4 (some .int), Cond.methodLink RX0 70 yX0_lowestClosed, Cond.instanceMethod yX0_lowestClosed, Cond.selects RX0 yX0_lowestClosed yX0_lowestClosed, Cond.code yX0_lowestClosed cX0_lowestClosed 2 (some .int), Cond.methodLink RX0 103 yX1_tick, Cond.instanceMethod yX1_tick, Cond.selects RX1 yX1_tick yX1_tick, Cond.code yX1_tick cX1_tick 3 none, Cond.methodLink RX1 50 yJ9_floorMod_7cf53, Cond.static yJ9_floorMod_7cf53, Cond.initialized RJ9, Cond.code yJ9_floorMod_7cf53 cJ9_floorMod_7cf53 3 (some .int), Cond.methodLink RX0 106 yX0_shed, Cond.instanceMethod yX0_shed, Cond.selects RX0 yX0_shed yX0_shed, Cond.code yX0_shed cX0_shed 2 none, Cond.fieldLink RX0 112 "DroopBoard$Feeder" "sheds" "I", Cond.methodLink RX0 109 yX0_trip, Cond.instanceMethod yX0_trip, Cond.selects RX0 yX0_trip yX0_trip]
def wsL_pass_r6 : List Cond := [Cond.code yX0_trip cX0_trip 4 (some .int), Cond.fieldLink RX0 115 "DroopBoard$Diesel" "overloaded" "I", Cond.fieldLink RX0 118 "DroopBoard$Diesel" "driven" "I", Cond.fieldLink RX0 124 "DroopBoard$Diesel" "trips" "I", Cond.methodLink RX0 121 yX1_openBreaker, Cond.instanceMethod yX1_openBreaker, Cond.selects RX1 yX1_openBreaker yX1_openBreaker, Cond.code yX1_openBreaker cX1_openBreaker 1 none, Cond.methodLink RX1 41 yX1_beginAnew, Cond.instanceMethod yX1_beginAnew, Cond.selects RX1 yX1_beginAnew yX1_beginAnew, Cond.code yX1_beginAnew cX1_beginAnew 1 none]
def wsL_pass : List Cond := .codeWith yL_pass cL_pass 4 (some .int) [(0, 9, 12, 15)] :: ((wsL_pass_r1 ++ (wsL_pass_r2 ++ (wsL_pass_r3 ++ (wsL_pass_r4 ++ (wsL_pass_r5 ++ wsL_pass_r6))))) ++ wsX50 ++ wsX30 ++ wsX00 ++ wsX10 ++ wsX20 ++ (vx_atS RX5 172 "java/lang/IllegalArgumentException" ["java/lang/RuntimeException", "java/lang/Exception"]).filter goodWord)
def wsL_set_r1 : List Cond := [Cond.classLink RL 13 "java/lang/IndexOutOfBoundsException", Cond.classLink RL 15 "java/lang/IllegalArgumentException", Cond.methodLink RL 45 yX5_set, Cond.instanceMethod yX5_set, Cond.selects RX5 yX5_set yX5_set, Cond.initialized RX5, Cond.code yX5_set cX5_set 4 (some .int), Cond.fieldLink RX5 141 "DroopBoard" "LEAST_OF_SETTING" "[I", Cond.fieldLink RX5 145 "DroopBoard" "MOST_OF_SETTING" "[I", Cond.fieldLink RX5 25 "DroopBoard" "history" "LDroopBoard$History;", Cond.fieldLink RX5 10 "DroopBoard" "board" "LDroopBoard$Board;", Cond.fieldLink RX5 148 "DroopBoard$Board" "settings" "[I", Cond.methodLink RX5 138 yX5_needSetting, Cond.static yX5_needSetting, Cond.code yX5_needSetting cX5_needSetting 1 none, Cond.classLink RX5 269 "java/lang/IndexOutOfBoundsException", Cond.initialized "java/lang/IndexOutOfBoundsException", Cond.methodLink RX5 40 yX5_needRange, Cond.static yX5_needRange, Cond.code yX5_needRange cX5_needRange 3 none, Cond.classLink RX5 168 "java/lang/IllegalArgumentException", Cond.initialized "java/lang/IllegalArgumentException", Cond.methodLink RX5 61 yX3_save, Cond.instanceMethod yX3_save]
def wsL_set_r2 : List Cond := [Cond.selects RX3 yX3_save yX3_save, Cond.initialized RX3, Cond.code yX3_save cX3_save 2 none, Cond.fieldLink RX3 18 "DroopBoard$History" "size" "I", Cond.fieldLink RX3 11 "DroopBoard$History" "states" "[LDroopBoard$Board;", Cond.methodLink RX3 22 yX3_dropOldest, Cond.instanceMethod yX3_dropOldest, Cond.selects RX3 yX3_dropOldest yX3_dropOldest, Cond.code yX3_dropOldest cX3_dropOldest 3 none, Cond.methodLink RX3 25 yX0_copyFrom, Cond.instanceMethod yX0_copyFrom, Cond.selects RX0 yX0_copyFrom yX0_copyFrom, Cond.initialized RX0, Cond.code yX0_copyFrom cX0_copyFrom 3 none, Cond.fieldLink RX0 11 "DroopBoard$Board" "diesels" "[LDroopBoard$Diesel;", Cond.fieldLink RX0 19 "DroopBoard$Board" "feeders" "[LDroopBoard$Feeder;", Cond.fieldLink RX0 23 "DroopBoard$Board" "settings" "[I", Cond.fieldLink RX0 38 "DroopBoard$Board" "ticks" "I", Cond.fieldLink RX0 42 "DroopBoard$Board" "energy" "I", Cond.methodLink RX0 31 yX1_copyFrom, Cond.instanceMethod yX1_copyFrom, Cond.selects RX1 yX1_copyFrom yX1_copyFrom, Cond.initialized RX1, Cond.code yX1_copyFrom cX1_copyFrom 2 none]
def wsL_set_r3 : List Cond := [Cond.fieldLink RX1 16 "DroopBoard$Diesel" "rating" "I", Cond.fieldLink RX1 7 "DroopBoard$Diesel" "droop" "I", Cond.fieldLink RX1 13 "DroopBoard$Diesel" "speed" "I", Cond.fieldLink RX1 19 "DroopBoard$Diesel" "runs" "Z", Cond.fieldLink RX1 23 "DroopBoard$Diesel" "closed" "Z", Cond.fieldLink RX1 26 "DroopBoard$Diesel" "phase" "I", Cond.fieldLink RX1 29 "DroopBoard$Diesel" "overloaded" "I", Cond.fieldLink RX1 32 "DroopBoard$Diesel" "driven" "I", Cond.fieldLink RX1 35 "DroopBoard$Diesel" "energy" "I", Cond.fieldLink RX1 38 "DroopBoard$Diesel" "trips" "I", Cond.methodLink RX0 35 yX2_copyFrom, Cond.instanceMethod yX2_copyFrom, Cond.selects RX2 yX2_copyFrom yX2_copyFrom, Cond.initialized RX2, Cond.code yX2_copyFrom cX2_copyFrom 2 none, Cond.fieldLink RX2 13 "DroopBoard$Feeder" "load" "I", Cond.fieldLink RX2 7 "DroopBoard$Feeder" "on" "Z", Cond.fieldLink RX2 17 "DroopBoard$Feeder" "sheds" "I"]
def wsL_set : List Cond := .codeWith yL_set cL_set 5 (some .int) [(0, 10, 13, 13), (0, 10, 17, 15)] :: ((wsL_set_r1 ++ (wsL_set_r2 ++ wsL_set_r3)) ++ wsX50 ++ wsX00 ++ wsX30 ++ wsX10 ++ wsX20 ++ (vx_atS RX5 273 "java/lang/IndexOutOfBoundsException" ["java/lang/RuntimeException", "java/lang/Exception"]).filter goodWord ++ (vx_atS RX5 172 "java/lang/IllegalArgumentException" ["java/lang/RuntimeException", "java/lang/Exception"]).filter goodWord)
def wsL_append_r1 : List Cond := [Cond.classLink RL 15 "java/lang/IllegalArgumentException", Cond.classLink RL 17 "java/lang/IllegalStateException", Cond.methodLink RL 48 yX5_append, Cond.instanceMethod yX5_append, Cond.selects RX5 yX5_append yX5_append, Cond.initialized RX5, Cond.code yX5_append cX5_append 2 (some .int), Cond.classLink RX5 54 "java/lang/IllegalStateException", Cond.initialized "java/lang/IllegalStateException", Cond.fieldLink RX5 32 "DroopBoard" "text" "LDroopBoard$OrderText;", Cond.fieldLink RX5 159 "DroopBoard$OrderText" "length" "I", Cond.methodLink RX5 40 yX5_needRange, Cond.static yX5_needRange, Cond.code yX5_needRange cX5_needRange 3 none, Cond.classLink RX5 168 "java/lang/IllegalArgumentException", Cond.initialized "java/lang/IllegalArgumentException", Cond.methodLink RX5 151 yX4_isFull, Cond.instanceMethod yX4_isFull, Cond.selects RX4 yX4_isFull yX4_isFull, Cond.initialized RX4, Cond.code yX4_isFull cX4_isFull 1 (some .boolean), Cond.fieldLink RX4 15 "DroopBoard$OrderText" "length" "I", Cond.fieldLink RX4 9 "DroopBoard$OrderText" "codes" "[I", Cond.methodLink RX5 156 yX4_add]
def wsL_append_r2 : List Cond := [Cond.instanceMethod yX4_add, Cond.selects RX4 yX4_add yX4_add, Cond.code yX4_add cX4_add 2 none, Cond.methodLink RX4 19 yX4_isFull]
def wsL_append : List Cond := .codeWith yL_append cL_append 4 (some .int) [(0, 9, 12, 15), (0, 9, 15, 17)] :: ((wsL_append_r1 ++ wsL_append_r2) ++ wsX50 ++ wsX40 ++ (vx_atS RX5 58 "java/lang/IllegalStateException" ["java/lang/RuntimeException", "java/lang/Exception"]).filter goodWord ++ (vx_atS RX5 172 "java/lang/IllegalArgumentException" ["java/lang/RuntimeException", "java/lang/Exception"]).filter goodWord)
def wsL_obey_r1 : List Cond := [Cond.classLink RL 15 "java/lang/IllegalArgumentException", Cond.methodLink RL 51 yX5_obey, Cond.instanceMethod yX5_obey, Cond.selects RX5 yX5_obey yX5_obey, Cond.initialized RX5, Cond.code yX5_obey cX5_obey 5 (some .int), Cond.classLink RX5 168 "java/lang/IllegalArgumentException", Cond.initialized "java/lang/IllegalArgumentException", Cond.fieldLink RX5 32 "DroopBoard" "text" "LDroopBoard$OrderText;", Cond.fieldLink RX5 25 "DroopBoard" "history" "LDroopBoard$History;", Cond.fieldLink RX5 10 "DroopBoard" "board" "LDroopBoard$Board;", Cond.fieldLink RX5 159 "DroopBoard$OrderText" "length" "I", Cond.methodLink RX5 165 yX4_isComplete, Cond.instanceMethod yX4_isComplete, Cond.selects RX4 yX4_isComplete yX4_isComplete, Cond.initialized RX4, Cond.code yX4_isComplete cX4_isComplete 3 (some .boolean), Cond.fieldLink RX4 15 "DroopBoard$OrderText" "length" "I", Cond.fieldLink RX4 9 "DroopBoard$OrderText" "codes" "[I", Cond.methodLink RX4 23 yX4_next, Cond.static yX4_next, Cond.code yX4_next cX4_next 2 (some .int), Cond.methodLink RX4 31 yX4_afterLetter, Cond.static yX4_afterLetter]
def wsL_obey_r2 : List Cond := [Cond.code yX4_afterLetter cX4_afterLetter 1 (some .int), Cond.methodLink RX4 34 yX4_between, Cond.static yX4_between, Cond.code yX4_between cX4_between 4 (some .int), Cond.methodLink RX5 61 yX3_save, Cond.instanceMethod yX3_save, Cond.selects RX3 yX3_save yX3_save, Cond.initialized RX3, Cond.code yX3_save cX3_save 2 none, Cond.fieldLink RX3 18 "DroopBoard$History" "size" "I", Cond.fieldLink RX3 11 "DroopBoard$History" "states" "[LDroopBoard$Board;", Cond.methodLink RX3 22 yX3_dropOldest, Cond.instanceMethod yX3_dropOldest, Cond.selects RX3 yX3_dropOldest yX3_dropOldest, Cond.code yX3_dropOldest cX3_dropOldest 3 none, Cond.methodLink RX3 25 yX0_copyFrom, Cond.instanceMethod yX0_copyFrom, Cond.selects RX0 yX0_copyFrom yX0_copyFrom, Cond.initialized RX0, Cond.code yX0_copyFrom cX0_copyFrom 3 none, Cond.fieldLink RX0 11 "DroopBoard$Board" "diesels" "[LDroopBoard$Diesel;", Cond.fieldLink RX0 19 "DroopBoard$Board" "feeders" "[LDroopBoard$Feeder;", Cond.fieldLink RX0 23 "DroopBoard$Board" "settings" "[I", Cond.fieldLink RX0 38 "DroopBoard$Board" "ticks" "I"]
def wsL_obey_r3 : List Cond := [Cond.fieldLink RX0 42 "DroopBoard$Board" "energy" "I", Cond.methodLink RX0 31 yX1_copyFrom, Cond.instanceMethod yX1_copyFrom, Cond.selects RX1 yX1_copyFrom yX1_copyFrom, Cond.initialized RX1, Cond.code yX1_copyFrom cX1_copyFrom 2 none, Cond.fieldLink RX1 16 "DroopBoard$Diesel" "rating" "I", Cond.fieldLink RX1 7 "DroopBoard$Diesel" "droop" "I", Cond.fieldLink RX1 13 "DroopBoard$Diesel" "speed" "I", Cond.fieldLink RX1 19 "DroopBoard$Diesel" "runs" "Z", Cond.fieldLink RX1 23 "DroopBoard$Diesel" "closed" "Z", Cond.fieldLink RX1 26 "DroopBoard$Diesel" "phase" "I", Cond.fieldLink RX1 29 "DroopBoard$Diesel" "overloaded" "I", Cond.fieldLink RX1 32 "DroopBoard$Diesel" "driven" "I", Cond.fieldLink RX1 35 "DroopBoard$Diesel" "energy" "I", Cond.fieldLink RX1 38 "DroopBoard$Diesel" "trips" "I", Cond.methodLink RX0 35 yX2_copyFrom, Cond.instanceMethod yX2_copyFrom, Cond.selects RX2 yX2_copyFrom yX2_copyFrom, Cond.initialized RX2, Cond.code yX2_copyFrom cX2_copyFrom 2 none, Cond.fieldLink RX2 13 "DroopBoard$Feeder" "load" "I", Cond.fieldLink RX2 7 "DroopBoard$Feeder" "on" "Z", Cond.fieldLink RX2 17 "DroopBoard$Feeder" "sheds" "I"]
def wsL_obey_r4 : List Cond := [Cond.methodLink RX5 173 yX4_endOfPart, Cond.instanceMethod yX4_endOfPart, Cond.selects RX4 yX4_endOfPart yX4_endOfPart, Cond.code yX4_endOfPart cX4_endOfPart 3 (some .int), Cond.methodLink RX4 27 yX4_codeAt, Cond.instanceMethod yX4_codeAt, Cond.selects RX4 yX4_codeAt yX4_codeAt, Cond.code yX4_codeAt cX4_codeAt 2 (some .int), Cond.methodLink RX5 176 yX5_carryOut, Cond.instanceMethod yX5_carryOut, Cond.selects RX5 yX5_carryOut yX5_carryOut, Cond.code yX5_carryOut cX5_carryOut 5 (some .boolean), Cond.fieldLink RX5 44 "DroopBoard$Board" "diesels" "[LDroopBoard$Diesel;", Cond.fieldLink RX5 72 "DroopBoard$Diesel" "speed" "I", Cond.methodLink RX5 260 yX4_codeAt, Cond.methodLink RX5 283 yX4_number, Cond.instanceMethod yX4_number, Cond.selects RX4 yX4_number yX4_number, Cond.code yX4_number cX4_number 5 (some .int), Cond.methodLink RX5 135 yX0_passTicks, Cond.instanceMethod yX0_passTicks, Cond.selects RX0 yX0_passTicks yX0_passTicks, Cond.code yX0_passTicks cX0_passTicks 4 (some .int), Cond.methodLink RX0 97 yX0_tick]
def wsL_obey_r5 : List Cond := [Cond.instanceMethod yX0_tick, Cond.selects RX0 yX0_tick yX0_tick, Cond.code yX0_tick cX0_tick 4 (some .int), Cond.methodLink RX0 88 yX0_frequency, Cond.instanceMethod yX0_frequency, Cond.selects RX0 yX0_frequency yX0_frequency, Cond.code yX0_frequency cX0_frequency 6 (some .int), Cond.methodLink RX0 49 yX0_alive, Cond.instanceMethod yX0_alive, Cond.selects RX0 yX0_alive yX0_alive, Cond.code yX0_alive cX0_alive 2 (some .boolean), Cond.fieldLink RX0 45 "DroopBoard$Diesel" "closed" "Z", Cond.methodLink RX0 63 yX0_demand, Cond.instanceMethod yX0_demand, Cond.selects RX0 yX0_demand yX0_demand, Cond.code yX0_demand cX0_demand 3 (some .int), Cond.fieldLink RX0 53 "DroopBoard$Feeder" "on" "Z", Cond.fieldLink RX0 56 "DroopBoard$Feeder" "load" "I", Cond.methodLink RX0 67 yX0_total, Cond.instanceMethod yX0_total, Cond.selects RX0 yX0_total yX0_total, Cond.code yX0_total cX0_total 4 (some .int), Cond.methodLink RX0 59 yX1_gives, Cond.instanceMethod yX1_gives]
def wsL_obey_r6 : List Cond := [Cond.selects RX1 yX1_gives yX1_gives, Cond.code yX1_gives cX1_gives 2 (some .int), Cond.methodLink RX0 100 yX0_lack, Cond.instanceMethod yX0_lack, Cond.selects RX0 yX0_lack yX0_lack, Cond.code yX0_lack cX0_lack 2 (some .int), Cond.methodLink RX0 73 Lib.Math.max.name, Cond.static Lib.Math.max.name, Cond.initialized "java/lang/Math", Cond.code Lib.Math.max.name Lib.Math.max.code 2 (some .int), Cond.methodLink RX0 79 yX0_power, Cond.instanceMethod yX0_power, Cond.selects RX0 yX0_power yX0_power, Cond.code yX0_power cX0_power 4 (some .int), Cond.methodLink RX0 70 yX0_lowestClosed, Cond.instanceMethod yX0_lowestClosed, Cond.selects RX0 yX0_lowestClosed yX0_lowestClosed, Cond.code yX0_lowestClosed cX0_lowestClosed 2 (some .int), Cond.methodLink RX0 103 yX1_tick, Cond.instanceMethod yX1_tick, Cond.selects RX1 yX1_tick yX1_tick, Cond.code yX1_tick cX1_tick 3 none, Cond.methodLink RX1 50 yJ9_floorMod_7cf53, Cond.static yJ9_floorMod_7cf53]
def wsL_obey_r7 : List Cond := [Cond.initialized RJ9, Cond.code yJ9_floorMod_7cf53 cJ9_floorMod_7cf53 3 (some .int), Cond.methodLink RX0 106 yX0_shed, Cond.instanceMethod yX0_shed, Cond.selects RX0 yX0_shed yX0_shed, Cond.code yX0_shed cX0_shed 2 none, Cond.fieldLink RX0 112 "DroopBoard$Feeder" "sheds" "I", Cond.methodLink RX0 109 yX0_trip, Cond.instanceMethod yX0_trip, Cond.selects RX0 yX0_trip yX0_trip, Cond.code yX0_trip cX0_trip 4 (some .int), Cond.fieldLink RX0 115 "DroopBoard$Diesel" "overloaded" "I", Cond.fieldLink RX0 118 "DroopBoard$Diesel" "driven" "I", Cond.fieldLink RX0 124 "DroopBoard$Diesel" "trips" "I", Cond.methodLink RX0 121 yX1_openBreaker, Cond.instanceMethod yX1_openBreaker, Cond.selects RX1 yX1_openBreaker yX1_openBreaker, Cond.code yX1_openBreaker cX1_openBreaker 1 none, Cond.methodLink RX1 41 yX1_beginAnew, Cond.instanceMethod yX1_beginAnew, Cond.selects RX1 yX1_beginAnew yX1_beginAnew, Cond.code yX1_beginAnew cX1_beginAnew 1 none, Cond.methodLink RX5 286 yX5_switchFeeder, Cond.instanceMethod yX5_switchFeeder]
def wsL_obey_r8 : List Cond := [Cond.selects RX5 yX5_switchFeeder yX5_switchFeeder, Cond.code yX5_switchFeeder cX5_switchFeeder 3 (some .boolean), Cond.fieldLink RX5 119 "DroopBoard$Board" "feeders" "[LDroopBoard$Feeder;", Cond.fieldLink RX5 128 "DroopBoard$Feeder" "on" "Z", Cond.methodLink RX5 274 yX5_isFeeder, Cond.static yX5_isFeeder, Cond.code yX5_isFeeder cX5_isFeeder 1 (some .boolean), Cond.methodLink RX5 265 yX5_isSet, Cond.static yX5_isSet, Cond.code yX5_isSet cX5_isSet 1 (some .boolean), Cond.methodLink RX5 290 yX5_commandSet, Cond.instanceMethod yX5_commandSet, Cond.selects RX5 yX5_commandSet yX5_commandSet, Cond.code yX5_commandSet cX5_commandSet 4 (some .boolean), Cond.fieldLink RX5 108 "DroopBoard$Diesel" "closed" "Z", Cond.methodLink RX5 75 yX1_canStart, Cond.instanceMethod yX1_canStart, Cond.selects RX1 yX1_canStart yX1_canStart, Cond.code yX1_canStart cX1_canStart 1 (some .boolean), Cond.methodLink RX5 81 yX1_start, Cond.instanceMethod yX1_start, Cond.selects RX1 yX1_start yX1_start, Cond.code yX1_start cX1_start 1 none, Cond.methodLink RX5 88 yX1_canStop]
def wsL_obey_r9 : List Cond := [Cond.instanceMethod yX1_canStop, Cond.selects RX1 yX1_canStop yX1_canStop, Cond.code yX1_canStop cX1_canStop 1 (some .boolean), Cond.methodLink RX5 93 yX1_stop, Cond.instanceMethod yX1_stop, Cond.selects RX1 yX1_stop yX1_stop, Cond.code yX1_stop cX1_stop 1 none, Cond.methodLink RX5 96 yX0_whyNotClosed, Cond.instanceMethod yX0_whyNotClosed, Cond.selects RX0 yX0_whyNotClosed yX0_whyNotClosed, Cond.code yX0_whyNotClosed cX0_whyNotClosed 3 (some .int), Cond.fieldLink RX0 82 "DroopBoard$Diesel" "runs" "Z", Cond.fieldLink RX0 85 "DroopBoard$Diesel" "speed" "I", Cond.methodLink RX0 91 Lib.Math.abs.name, Cond.static Lib.Math.abs.name, Cond.code Lib.Math.abs.name Lib.Math.abs.code 1 (some .int), Cond.methodLink RX0 94 yX1_lamps, Cond.instanceMethod yX1_lamps, Cond.selects RX1 yX1_lamps yX1_lamps, Cond.code yX1_lamps cX1_lamps 1 (some .int), Cond.methodLink RX1 44 Lib.Math.min.name, Cond.static Lib.Math.min.name, Cond.code Lib.Math.min.name Lib.Math.min.code 2 (some .int), Cond.methodLink RX5 102 yX1_closeBreaker]
def wsL_obey_r10 : List Cond := [Cond.instanceMethod yX1_closeBreaker, Cond.selects RX1 yX1_closeBreaker yX1_closeBreaker, Cond.code yX1_closeBreaker cX1_closeBreaker 1 none, Cond.methodLink RX5 113 yX1_openBreaker]
def wsL_obey : List Cond := .codeWith yL_obey cL_obey 3 (some .int) [(0, 8, 11, 15)] :: ((wsL_obey_r1 ++ (wsL_obey_r2 ++ (wsL_obey_r3 ++ (wsL_obey_r4 ++ (wsL_obey_r5 ++ (wsL_obey_r6 ++ (wsL_obey_r7 ++ (wsL_obey_r8 ++ (wsL_obey_r9 ++ wsL_obey_r10))))))))) ++ wsX50 ++ wsX40 ++ wsX30 ++ wsX00 ++ wsX10 ++ wsX20 ++ (vx_atS RX5 172 "java/lang/IllegalArgumentException" ["java/lang/RuntimeException", "java/lang/Exception"]).filter goodWord)
def wsL_goBack_r1 : List Cond := [Cond.classLink RL 17 "java/lang/IllegalStateException", Cond.methodLink RL 55 yX5_goBack, Cond.instanceMethod yX5_goBack, Cond.selects RX5 yX5_goBack yX5_goBack, Cond.initialized RX5, Cond.code yX5_goBack cX5_goBack 1 (some .int), Cond.classLink RX5 54 "java/lang/IllegalStateException", Cond.initialized "java/lang/IllegalStateException", Cond.fieldLink RX5 183 "DroopBoard" "hasSnapshot" "Z", Cond.fieldLink RX5 25 "DroopBoard" "history" "LDroopBoard$History;", Cond.fieldLink RX5 10 "DroopBoard" "board" "LDroopBoard$Board;", Cond.fieldLink RX5 19 "DroopBoard" "snapshot" "LDroopBoard$Board;", Cond.fieldLink RX5 186 "DroopBoard$Board" "ticks" "I", Cond.methodLink RX5 61 yX3_save, Cond.instanceMethod yX3_save, Cond.selects RX3 yX3_save yX3_save, Cond.initialized RX3, Cond.code yX3_save cX3_save 2 none, Cond.fieldLink RX3 18 "DroopBoard$History" "size" "I", Cond.fieldLink RX3 11 "DroopBoard$History" "states" "[LDroopBoard$Board;", Cond.methodLink RX3 22 yX3_dropOldest, Cond.instanceMethod yX3_dropOldest, Cond.selects RX3 yX3_dropOldest yX3_dropOldest, Cond.code yX3_dropOldest cX3_dropOldest 3 none]
def wsL_goBack_r2 : List Cond := [Cond.methodLink RX3 25 yX0_copyFrom, Cond.instanceMethod yX0_copyFrom, Cond.selects RX0 yX0_copyFrom yX0_copyFrom, Cond.initialized RX0, Cond.code yX0_copyFrom cX0_copyFrom 3 none, Cond.fieldLink RX0 11 "DroopBoard$Board" "diesels" "[LDroopBoard$Diesel;", Cond.fieldLink RX0 19 "DroopBoard$Board" "feeders" "[LDroopBoard$Feeder;", Cond.fieldLink RX0 23 "DroopBoard$Board" "settings" "[I", Cond.fieldLink RX0 38 "DroopBoard$Board" "ticks" "I", Cond.fieldLink RX0 42 "DroopBoard$Board" "energy" "I", Cond.methodLink RX0 31 yX1_copyFrom, Cond.instanceMethod yX1_copyFrom, Cond.selects RX1 yX1_copyFrom yX1_copyFrom, Cond.initialized RX1, Cond.code yX1_copyFrom cX1_copyFrom 2 none, Cond.fieldLink RX1 16 "DroopBoard$Diesel" "rating" "I", Cond.fieldLink RX1 7 "DroopBoard$Diesel" "droop" "I", Cond.fieldLink RX1 13 "DroopBoard$Diesel" "speed" "I", Cond.fieldLink RX1 19 "DroopBoard$Diesel" "runs" "Z", Cond.fieldLink RX1 23 "DroopBoard$Diesel" "closed" "Z", Cond.fieldLink RX1 26 "DroopBoard$Diesel" "phase" "I", Cond.fieldLink RX1 29 "DroopBoard$Diesel" "overloaded" "I", Cond.fieldLink RX1 32 "DroopBoard$Diesel" "driven" "I", Cond.fieldLink RX1 35 "DroopBoard$Diesel" "energy" "I"]
def wsL_goBack_r3 : List Cond := [Cond.fieldLink RX1 38 "DroopBoard$Diesel" "trips" "I", Cond.methodLink RX0 35 yX2_copyFrom, Cond.instanceMethod yX2_copyFrom, Cond.selects RX2 yX2_copyFrom yX2_copyFrom, Cond.initialized RX2, Cond.code yX2_copyFrom cX2_copyFrom 2 none, Cond.fieldLink RX2 13 "DroopBoard$Feeder" "load" "I", Cond.fieldLink RX2 7 "DroopBoard$Feeder" "on" "Z", Cond.fieldLink RX2 17 "DroopBoard$Feeder" "sheds" "I", Cond.methodLink RX5 180 yX0_copyFrom]
def wsL_goBack : List Cond := .codeWith yL_goBack cL_goBack 3 (some .int) [(0, 8, 11, 17)] :: ((wsL_goBack_r1 ++ (wsL_goBack_r2 ++ wsL_goBack_r3)) ++ wsX50 ++ wsX00 ++ wsX30 ++ wsX10 ++ wsX20 ++ (vx_atS RX5 58 "java/lang/IllegalStateException" ["java/lang/RuntimeException", "java/lang/Exception"]).filter goodWord)
def wsL_undo_r1 : List Cond := [Cond.classLink RL 17 "java/lang/IllegalStateException", Cond.methodLink RL 58 yX5_undo, Cond.instanceMethod yX5_undo, Cond.selects RX5 yX5_undo yX5_undo, Cond.initialized RX5, Cond.code yX5_undo cX5_undo 1 (some .int), Cond.classLink RX5 54 "java/lang/IllegalStateException", Cond.initialized "java/lang/IllegalStateException", Cond.fieldLink RX5 25 "DroopBoard" "history" "LDroopBoard$History;", Cond.fieldLink RX5 191 "DroopBoard$History" "size" "I", Cond.fieldLink RX5 10 "DroopBoard" "board" "LDroopBoard$Board;", Cond.methodLink RX5 196 yX3_restore, Cond.instanceMethod yX3_restore, Cond.selects RX3 yX3_restore yX3_restore, Cond.initialized RX3, Cond.code yX3_restore cX3_restore 2 none, Cond.fieldLink RX3 18 "DroopBoard$History" "size" "I", Cond.fieldLink RX3 11 "DroopBoard$History" "states" "[LDroopBoard$Board;", Cond.methodLink RX3 25 yX0_copyFrom, Cond.instanceMethod yX0_copyFrom, Cond.selects RX0 yX0_copyFrom yX0_copyFrom, Cond.initialized RX0, Cond.code yX0_copyFrom cX0_copyFrom 3 none, Cond.fieldLink RX0 11 "DroopBoard$Board" "diesels" "[LDroopBoard$Diesel;"]
def wsL_undo_r2 : List Cond := [Cond.fieldLink RX0 19 "DroopBoard$Board" "feeders" "[LDroopBoard$Feeder;", Cond.fieldLink RX0 23 "DroopBoard$Board" "settings" "[I", Cond.fieldLink RX0 38 "DroopBoard$Board" "ticks" "I", Cond.fieldLink RX0 42 "DroopBoard$Board" "energy" "I", Cond.methodLink RX0 31 yX1_copyFrom, Cond.instanceMethod yX1_copyFrom, Cond.selects RX1 yX1_copyFrom yX1_copyFrom, Cond.initialized RX1, Cond.code yX1_copyFrom cX1_copyFrom 2 none, Cond.fieldLink RX1 16 "DroopBoard$Diesel" "rating" "I", Cond.fieldLink RX1 7 "DroopBoard$Diesel" "droop" "I", Cond.fieldLink RX1 13 "DroopBoard$Diesel" "speed" "I", Cond.fieldLink RX1 19 "DroopBoard$Diesel" "runs" "Z", Cond.fieldLink RX1 23 "DroopBoard$Diesel" "closed" "Z", Cond.fieldLink RX1 26 "DroopBoard$Diesel" "phase" "I", Cond.fieldLink RX1 29 "DroopBoard$Diesel" "overloaded" "I", Cond.fieldLink RX1 32 "DroopBoard$Diesel" "driven" "I", Cond.fieldLink RX1 35 "DroopBoard$Diesel" "energy" "I", Cond.fieldLink RX1 38 "DroopBoard$Diesel" "trips" "I", Cond.methodLink RX0 35 yX2_copyFrom, Cond.instanceMethod yX2_copyFrom, Cond.selects RX2 yX2_copyFrom yX2_copyFrom, Cond.initialized RX2, Cond.code yX2_copyFrom cX2_copyFrom 2 none]
def wsL_undo_r3 : List Cond := [Cond.fieldLink RX2 13 "DroopBoard$Feeder" "load" "I", Cond.fieldLink RX2 7 "DroopBoard$Feeder" "on" "Z", Cond.fieldLink RX2 17 "DroopBoard$Feeder" "sheds" "I"]
def wsL_undo : List Cond := .codeWith yL_undo cL_undo 3 (some .int) [(0, 8, 11, 17)] :: ((wsL_undo_r1 ++ (wsL_undo_r2 ++ wsL_undo_r3)) ++ wsX50 ++ wsX30 ++ wsX00 ++ wsX10 ++ wsX20 ++ (vx_atS RX5 58 "java/lang/IllegalStateException" ["java/lang/RuntimeException", "java/lang/Exception"]).filter goodWord)
def wsL_diesel_r1 : List Cond := [Cond.classLink RL 13 "java/lang/IndexOutOfBoundsException", Cond.classLink RL 15 "java/lang/IllegalArgumentException", Cond.methodLink RL 61 yX5_diesel, Cond.instanceMethod yX5_diesel, Cond.selects RX5 yX5_diesel yX5_diesel, Cond.initialized RX5, Cond.code yX5_diesel cX5_diesel 3 (some .int), Cond.methodLink RX5 36 yX5_needSet, Cond.static yX5_needSet, Cond.code yX5_needSet cX5_needSet 1 none, Cond.classLink RX5 269 "java/lang/IndexOutOfBoundsException", Cond.initialized "java/lang/IndexOutOfBoundsException", Cond.methodLink RX5 265 yX5_isSet, Cond.static yX5_isSet, Cond.code yX5_isSet cX5_isSet 1 (some .boolean), Cond.methodLink RX5 40 yX5_needRange, Cond.static yX5_needRange, Cond.code yX5_needRange cX5_needRange 3 none, Cond.classLink RX5 168 "java/lang/IllegalArgumentException", Cond.initialized "java/lang/IllegalArgumentException", Cond.methodLink RX5 199 yX5_tellOfSet, Cond.instanceMethod yX5_tellOfSet, Cond.selects RX5 yX5_tellOfSet yX5_tellOfSet, Cond.code yX5_tellOfSet cX5_tellOfSet 4 (some .int)]
def wsL_diesel_r2 : List Cond := [Cond.fieldLink RX5 10 "DroopBoard" "board" "LDroopBoard$Board;", Cond.fieldLink RX5 44 "DroopBoard$Board" "diesels" "[LDroopBoard$Diesel;", Cond.fieldLink RX5 65 "DroopBoard$Diesel" "rating" "I", Cond.fieldLink RX5 69 "DroopBoard$Diesel" "droop" "I", Cond.fieldLink RX5 72 "DroopBoard$Diesel" "speed" "I", Cond.fieldLink RX5 48 "DroopBoard$Diesel" "runs" "Z", Cond.fieldLink RX5 108 "DroopBoard$Diesel" "closed" "Z", Cond.fieldLink RX5 296 "DroopBoard$Diesel" "phase" "I", Cond.fieldLink RX5 302 "DroopBoard$Diesel" "overloaded" "I", Cond.fieldLink RX5 305 "DroopBoard$Diesel" "driven" "I", Cond.fieldLink RX5 308 "DroopBoard$Diesel" "energy" "I", Cond.fieldLink RX5 309 "DroopBoard$Diesel" "trips" "I", Cond.methodLink RX5 131 yX5_oneIf, Cond.static yX5_oneIf, Cond.code yX5_oneIf cX5_oneIf 1 (some .int), Cond.methodLink RX5 105 yX0_frequency, Cond.instanceMethod yX0_frequency, Cond.selects RX0 yX0_frequency yX0_frequency, Cond.initialized RX0, Cond.code yX0_frequency cX0_frequency 6 (some .int), Cond.methodLink RX0 49 yX0_alive, Cond.instanceMethod yX0_alive, Cond.selects RX0 yX0_alive yX0_alive, Cond.code yX0_alive cX0_alive 2 (some .boolean)]
def wsL_diesel_r3 : List Cond := [Cond.fieldLink RX0 11 "DroopBoard$Board" "diesels" "[LDroopBoard$Diesel;", Cond.fieldLink RX0 45 "DroopBoard$Diesel" "closed" "Z", Cond.methodLink RX0 63 yX0_demand, Cond.instanceMethod yX0_demand, Cond.selects RX0 yX0_demand yX0_demand, Cond.code yX0_demand cX0_demand 3 (some .int), Cond.fieldLink RX0 19 "DroopBoard$Board" "feeders" "[LDroopBoard$Feeder;", Cond.fieldLink RX0 53 "DroopBoard$Feeder" "on" "Z", Cond.fieldLink RX0 56 "DroopBoard$Feeder" "load" "I", Cond.methodLink RX0 67 yX0_total, Cond.instanceMethod yX0_total, Cond.selects RX0 yX0_total yX0_total, Cond.code yX0_total cX0_total 4 (some .int), Cond.methodLink RX0 59 yX1_gives, Cond.instanceMethod yX1_gives, Cond.selects RX1 yX1_gives yX1_gives, Cond.initialized RX1, Cond.code yX1_gives cX1_gives 2 (some .int), Cond.fieldLink RX1 23 "DroopBoard$Diesel" "closed" "Z", Cond.fieldLink RX1 7 "DroopBoard$Diesel" "droop" "I", Cond.fieldLink RX1 13 "DroopBoard$Diesel" "speed" "I", Cond.fieldLink RX1 16 "DroopBoard$Diesel" "rating" "I", Cond.methodLink RX5 293 yX0_power, Cond.instanceMethod yX0_power]
def wsL_diesel_r4 : List Cond := [Cond.selects RX0 yX0_power yX0_power, Cond.code yX0_power cX0_power 4 (some .int), Cond.methodLink RX0 73 Lib.Math.max.name, Cond.static Lib.Math.max.name, Cond.initialized "java/lang/Math", Cond.code Lib.Math.max.name Lib.Math.max.code 2 (some .int), Cond.methodLink RX0 70 yX0_lowestClosed, Cond.instanceMethod yX0_lowestClosed, Cond.selects RX0 yX0_lowestClosed yX0_lowestClosed, Cond.code yX0_lowestClosed cX0_lowestClosed 2 (some .int), Cond.methodLink RX5 299 yX1_lamps, Cond.instanceMethod yX1_lamps, Cond.selects RX1 yX1_lamps yX1_lamps, Cond.code yX1_lamps cX1_lamps 1 (some .int), Cond.fieldLink RX1 26 "DroopBoard$Diesel" "phase" "I", Cond.methodLink RX1 44 Lib.Math.min.name, Cond.static Lib.Math.min.name, Cond.code Lib.Math.min.name Lib.Math.min.code 2 (some .int), Cond.methodLink RX5 96 yX0_whyNotClosed, Cond.instanceMethod yX0_whyNotClosed, Cond.selects RX0 yX0_whyNotClosed yX0_whyNotClosed, Cond.code yX0_whyNotClosed cX0_whyNotClosed 3 (some .int), Cond.fieldLink RX0 82 "DroopBoard$Diesel" "runs" "Z", Cond.fieldLink RX0 85 "DroopBoard$Diesel" "speed" "I"]
def wsL_diesel_r5 : List Cond := [Cond.methodLink RX0 91 Lib.Math.abs.name, Cond.static Lib.Math.abs.name, Cond.code Lib.Math.abs.name Lib.Math.abs.code 1 (some .int), Cond.fieldLink RX0 23 "DroopBoard$Board" "settings" "[I", Cond.methodLink RX0 88 yX0_frequency, Cond.methodLink RX0 94 yX1_lamps]
def wsL_diesel : List Cond := .codeWith yL_diesel cL_diesel 5 (some .int) [(0, 10, 13, 13), (0, 10, 17, 15)] :: ((wsL_diesel_r1 ++ (wsL_diesel_r2 ++ (wsL_diesel_r3 ++ (wsL_diesel_r4 ++ wsL_diesel_r5)))) ++ wsX50 ++ wsX00 ++ wsX10 ++ wsX20 ++ (vx_atS RX5 273 "java/lang/IndexOutOfBoundsException" ["java/lang/RuntimeException", "java/lang/Exception"]).filter goodWord ++ (vx_atS RX5 172 "java/lang/IllegalArgumentException" ["java/lang/RuntimeException", "java/lang/Exception"]).filter goodWord)
def wsL_line_r1 : List Cond := [Cond.classLink RL 13 "java/lang/IndexOutOfBoundsException", Cond.classLink RL 15 "java/lang/IllegalArgumentException", Cond.methodLink RL 64 yX5_line, Cond.instanceMethod yX5_line, Cond.selects RX5 yX5_line yX5_line, Cond.initialized RX5, Cond.code yX5_line cX5_line 3 (some .int), Cond.methodLink RX5 116 yX5_needFeeder, Cond.static yX5_needFeeder, Cond.code yX5_needFeeder cX5_needFeeder 1 none, Cond.classLink RX5 269 "java/lang/IndexOutOfBoundsException", Cond.initialized "java/lang/IndexOutOfBoundsException", Cond.methodLink RX5 274 yX5_isFeeder, Cond.static yX5_isFeeder, Cond.code yX5_isFeeder cX5_isFeeder 1 (some .boolean), Cond.methodLink RX5 40 yX5_needRange, Cond.static yX5_needRange, Cond.code yX5_needRange cX5_needRange 3 none, Cond.classLink RX5 168 "java/lang/IllegalArgumentException", Cond.initialized "java/lang/IllegalArgumentException", Cond.methodLink RX5 203 yX5_tellOfFeeder, Cond.instanceMethod yX5_tellOfFeeder, Cond.selects RX5 yX5_tellOfFeeder yX5_tellOfFeeder, Cond.code yX5_tellOfFeeder cX5_tellOfFeeder 3 (some .int)]
def wsL_line_r2 : List Cond := [Cond.fieldLink RX5 10 "DroopBoard" "board" "LDroopBoard$Board;", Cond.fieldLink RX5 119 "DroopBoard$Board" "feeders" "[LDroopBoard$Feeder;", Cond.fieldLink RX5 123 "DroopBoard$Feeder" "load" "I", Cond.fieldLink RX5 128 "DroopBoard$Feeder" "on" "Z", Cond.fieldLink RX5 312 "DroopBoard$Feeder" "sheds" "I", Cond.methodLink RX5 131 yX5_oneIf, Cond.static yX5_oneIf, Cond.code yX5_oneIf cX5_oneIf 1 (some .int)]
def wsL_line : List Cond := .codeWith yL_line cL_line 5 (some .int) [(0, 10, 13, 13), (0, 10, 17, 15)] :: ((wsL_line_r1 ++ wsL_line_r2) ++ wsX50 ++ wsX00 ++ wsX20 ++ (vx_atS RX5 273 "java/lang/IndexOutOfBoundsException" ["java/lang/RuntimeException", "java/lang/Exception"]).filter goodWord ++ (vx_atS RX5 172 "java/lang/IllegalArgumentException" ["java/lang/RuntimeException", "java/lang/Exception"]).filter goodWord)
def wsL_count_r1 : List Cond := [Cond.classLink RL 15 "java/lang/IllegalArgumentException", Cond.methodLink RL 67 yX5_count, Cond.instanceMethod yX5_count, Cond.selects RX5 yX5_count yX5_count, Cond.initialized RX5, Cond.code yX5_count cX5_count 2 (some .int), Cond.methodLink RX5 40 yX5_needRange, Cond.static yX5_needRange, Cond.code yX5_needRange cX5_needRange 3 none, Cond.classLink RX5 168 "java/lang/IllegalArgumentException", Cond.initialized "java/lang/IllegalArgumentException", Cond.methodLink RX5 206 yX5_tellCount, Cond.instanceMethod yX5_tellCount, Cond.selects RX5 yX5_tellCount yX5_tellCount, Cond.code yX5_tellCount cX5_tellCount 2 (some .int), Cond.fieldLink RX5 10 "DroopBoard" "board" "LDroopBoard$Board;", Cond.fieldLink RX5 186 "DroopBoard$Board" "ticks" "I", Cond.fieldLink RX5 228 "DroopBoard$Board" "energy" "I", Cond.fieldLink RX5 25 "DroopBoard" "history" "LDroopBoard$History;", Cond.fieldLink RX5 191 "DroopBoard$History" "size" "I", Cond.methodLink RX5 315 yX0_frequencyDownwards, Cond.instanceMethod yX0_frequencyDownwards, Cond.selects RX0 yX0_frequencyDownwards yX0_frequencyDownwards, Cond.initialized RX0]
def wsL_count_r2 : List Cond := [Cond.code yX0_frequencyDownwards cX0_frequencyDownwards 3 (some .int), Cond.methodLink RX0 49 yX0_alive, Cond.instanceMethod yX0_alive, Cond.selects RX0 yX0_alive yX0_alive, Cond.code yX0_alive cX0_alive 2 (some .boolean), Cond.fieldLink RX0 11 "DroopBoard$Board" "diesels" "[LDroopBoard$Diesel;", Cond.fieldLink RX0 45 "DroopBoard$Diesel" "closed" "Z", Cond.methodLink RX0 63 yX0_demand, Cond.instanceMethod yX0_demand, Cond.selects RX0 yX0_demand yX0_demand, Cond.code yX0_demand cX0_demand 3 (some .int), Cond.fieldLink RX0 19 "DroopBoard$Board" "feeders" "[LDroopBoard$Feeder;", Cond.fieldLink RX0 53 "DroopBoard$Feeder" "on" "Z", Cond.fieldLink RX0 56 "DroopBoard$Feeder" "load" "I", Cond.methodLink RX0 67 yX0_total, Cond.instanceMethod yX0_total, Cond.selects RX0 yX0_total yX0_total, Cond.code yX0_total cX0_total 4 (some .int), Cond.methodLink RX0 59 yX1_gives, Cond.instanceMethod yX1_gives, Cond.selects RX1 yX1_gives yX1_gives, Cond.initialized RX1, Cond.code yX1_gives cX1_gives 2 (some .int), Cond.fieldLink RX1 23 "DroopBoard$Diesel" "closed" "Z"]
def wsL_count_r3 : List Cond := [Cond.fieldLink RX1 7 "DroopBoard$Diesel" "droop" "I", Cond.fieldLink RX1 13 "DroopBoard$Diesel" "speed" "I", Cond.fieldLink RX1 16 "DroopBoard$Diesel" "rating" "I", Cond.methodLink RX5 105 yX0_frequency, Cond.instanceMethod yX0_frequency, Cond.selects RX0 yX0_frequency yX0_frequency, Cond.code yX0_frequency cX0_frequency 6 (some .int), Cond.methodLink RX5 225 yX0_demand, Cond.methodLink RX5 318 yX0_powers, Cond.instanceMethod yX0_powers, Cond.selects RX0 yX0_powers yX0_powers, Cond.code yX0_powers cX0_powers 4 (some .int), Cond.methodLink RX0 79 yX0_power, Cond.instanceMethod yX0_power, Cond.selects RX0 yX0_power yX0_power, Cond.code yX0_power cX0_power 4 (some .int), Cond.methodLink RX0 73 Lib.Math.max.name, Cond.static Lib.Math.max.name, Cond.initialized "java/lang/Math", Cond.code Lib.Math.max.name Lib.Math.max.code 2 (some .int), Cond.methodLink RX0 70 yX0_lowestClosed, Cond.instanceMethod yX0_lowestClosed, Cond.selects RX0 yX0_lowestClosed yX0_lowestClosed, Cond.code yX0_lowestClosed cX0_lowestClosed 2 (some .int)]
def wsL_count_r4 : List Cond := [Cond.methodLink RX5 321 yX0_lack, Cond.instanceMethod yX0_lack, Cond.selects RX0 yX0_lack yX0_lack, Cond.code yX0_lack cX0_lack 2 (some .int), Cond.methodLink RX5 84 yX0_running, Cond.instanceMethod yX0_running, Cond.selects RX0 yX0_running yX0_running, Cond.code yX0_running cX0_running 3 (some .int), Cond.fieldLink RX0 82 "DroopBoard$Diesel" "runs" "Z", Cond.static yX5_oneIf, Cond.code yX5_oneIf cX5_oneIf 1 (some .int), Cond.methodLink RX5 324 yX0_closedBreakers, Cond.instanceMethod yX0_closedBreakers, Cond.selects RX0 yX0_closedBreakers yX0_closedBreakers, Cond.code yX0_closedBreakers cX0_closedBreakers 3 (some .int), Cond.methodLink RX5 327 yX0_trips, Cond.instanceMethod yX0_trips, Cond.selects RX0 yX0_trips yX0_trips, Cond.code yX0_trips cX0_trips 3 (some .int), Cond.fieldLink RX0 124 "DroopBoard$Diesel" "trips" "I", Cond.methodLink RX5 329 yX0_sheds, Cond.instanceMethod yX0_sheds, Cond.selects RX0 yX0_sheds yX0_sheds, Cond.code yX0_sheds cX0_sheds 3 (some .int)]
def wsL_count_r5 : List Cond := [Cond.fieldLink RX0 112 "DroopBoard$Feeder" "sheds" "I"]
def wsL_count : List Cond := .codeWith yL_count cL_count 4 (some .int) [(0, 9, 12, 15)] :: ((wsL_count_r1 ++ (wsL_count_r2 ++ (wsL_count_r3 ++ (wsL_count_r4 ++ wsL_count_r5)))) ++ wsX50 ++ wsX00 ++ wsX30 ++ wsX10 ++ wsX20 ++ (vx_atS RX5 172 "java/lang/IllegalArgumentException" ["java/lang/RuntimeException", "java/lang/Exception"]).filter goodWord)
def wsL_setting : List Cond := .codeWith yL_setting cL_setting 4 (some .int) [(0, 9, 12, 13)] :: ([.classLink RL 13 "java/lang/IndexOutOfBoundsException", .methodLink RL 70 yX5_setting, .instanceMethod yX5_setting, .selects RX5 yX5_setting yX5_setting, .initialized RX5, .code yX5_setting cX5_setting 2 (some .int), .fieldLink RX5 10 "DroopBoard" "board" "LDroopBoard$Board;", .fieldLink RX5 148 "DroopBoard$Board" "settings" "[I", .methodLink RX5 138 yX5_needSetting, .static yX5_needSetting, .code yX5_needSetting cX5_needSetting 1 none, .classLink RX5 269 "java/lang/IndexOutOfBoundsException", .initialized "java/lang/IndexOutOfBoundsException"] ++ wsX50 ++ wsX00 ++ (vx_atS RX5 273 "java/lang/IndexOutOfBoundsException" ["java/lang/RuntimeException", "java/lang/Exception"]).filter goodWord)
def wsL_ifSpeed_r1 : List Cond := [Cond.classLink RL 13 "java/lang/IndexOutOfBoundsException", Cond.classLink RL 15 "java/lang/IllegalArgumentException", Cond.methodLink RL 73 yX5_ifSpeed, Cond.instanceMethod yX5_ifSpeed, Cond.selects RX5 yX5_ifSpeed yX5_ifSpeed, Cond.initialized RX5, Cond.code yX5_ifSpeed cX5_ifSpeed 4 (some .int), Cond.methodLink RX5 36 yX5_needSet, Cond.static yX5_needSet, Cond.code yX5_needSet cX5_needSet 1 none, Cond.classLink RX5 269 "java/lang/IndexOutOfBoundsException", Cond.initialized "java/lang/IndexOutOfBoundsException", Cond.methodLink RX5 265 yX5_isSet, Cond.static yX5_isSet, Cond.code yX5_isSet cX5_isSet 1 (some .boolean), Cond.methodLink RX5 40 yX5_needRange, Cond.static yX5_needRange, Cond.code yX5_needRange cX5_needRange 3 none, Cond.classLink RX5 168 "java/lang/IllegalArgumentException", Cond.initialized "java/lang/IllegalArgumentException", Cond.methodLink RX5 209 yX5_tellIfSpeed, Cond.instanceMethod yX5_tellIfSpeed, Cond.selects RX5 yX5_tellIfSpeed yX5_tellIfSpeed, Cond.code yX5_tellIfSpeed cX5_tellIfSpeed 5 (some .int)]
def wsL_ifSpeed_r2 : List Cond := [Cond.fieldLink RX5 16 "DroopBoard" "trial" "LDroopBoard$Board;", Cond.fieldLink RX5 10 "DroopBoard" "board" "LDroopBoard$Board;", Cond.fieldLink RX5 44 "DroopBoard$Board" "diesels" "[LDroopBoard$Diesel;", Cond.fieldLink RX5 72 "DroopBoard$Diesel" "speed" "I", Cond.methodLink RX5 180 yX0_copyFrom, Cond.instanceMethod yX0_copyFrom, Cond.selects RX0 yX0_copyFrom yX0_copyFrom, Cond.initialized RX0, Cond.code yX0_copyFrom cX0_copyFrom 3 none, Cond.fieldLink RX0 11 "DroopBoard$Board" "diesels" "[LDroopBoard$Diesel;", Cond.fieldLink RX0 19 "DroopBoard$Board" "feeders" "[LDroopBoard$Feeder;", Cond.fieldLink RX0 23 "DroopBoard$Board" "settings" "[I", Cond.fieldLink RX0 38 "DroopBoard$Board" "ticks" "I", Cond.fieldLink RX0 42 "DroopBoard$Board" "energy" "I", Cond.methodLink RX0 31 yX1_copyFrom, Cond.instanceMethod yX1_copyFrom, Cond.selects RX1 yX1_copyFrom yX1_copyFrom, Cond.initialized RX1, Cond.code yX1_copyFrom cX1_copyFrom 2 none, Cond.fieldLink RX1 16 "DroopBoard$Diesel" "rating" "I", Cond.fieldLink RX1 7 "DroopBoard$Diesel" "droop" "I", Cond.fieldLink RX1 13 "DroopBoard$Diesel" "speed" "I", Cond.fieldLink RX1 19 "DroopBoard$Diesel" "runs" "Z", Cond.fieldLink RX1 23 "DroopBoard$Diesel" "closed" "Z"]
def wsL_ifSpeed_r3 : List Cond := [Cond.fieldLink RX1 26 "DroopBoard$Diesel" "phase" "I", Cond.fieldLink RX1 29 "DroopBoard$Diesel" "overloaded" "I", Cond.fieldLink RX1 32 "DroopBoard$Diesel" "driven" "I", Cond.fieldLink RX1 35 "DroopBoard$Diesel" "energy" "I", Cond.fieldLink RX1 38 "DroopBoard$Diesel" "trips" "I", Cond.methodLink RX0 35 yX2_copyFrom, Cond.instanceMethod yX2_copyFrom, Cond.selects RX2 yX2_copyFrom yX2_copyFrom, Cond.initialized RX2, Cond.code yX2_copyFrom cX2_copyFrom 2 none, Cond.fieldLink RX2 13 "DroopBoard$Feeder" "load" "I", Cond.fieldLink RX2 7 "DroopBoard$Feeder" "on" "Z", Cond.fieldLink RX2 17 "DroopBoard$Feeder" "sheds" "I", Cond.methodLink RX5 105 yX0_frequency, Cond.instanceMethod yX0_frequency, Cond.selects RX0 yX0_frequency yX0_frequency, Cond.code yX0_frequency cX0_frequency 6 (some .int), Cond.methodLink RX0 49 yX0_alive, Cond.instanceMethod yX0_alive, Cond.selects RX0 yX0_alive yX0_alive, Cond.code yX0_alive cX0_alive 2 (some .boolean), Cond.fieldLink RX0 45 "DroopBoard$Diesel" "closed" "Z", Cond.methodLink RX0 63 yX0_demand, Cond.instanceMethod yX0_demand]
def wsL_ifSpeed_r4 : List Cond := [Cond.selects RX0 yX0_demand yX0_demand, Cond.code yX0_demand cX0_demand 3 (some .int), Cond.fieldLink RX0 53 "DroopBoard$Feeder" "on" "Z", Cond.fieldLink RX0 56 "DroopBoard$Feeder" "load" "I", Cond.methodLink RX0 67 yX0_total, Cond.instanceMethod yX0_total, Cond.selects RX0 yX0_total yX0_total, Cond.code yX0_total cX0_total 4 (some .int), Cond.methodLink RX0 59 yX1_gives, Cond.instanceMethod yX1_gives, Cond.selects RX1 yX1_gives yX1_gives, Cond.code yX1_gives cX1_gives 2 (some .int), Cond.methodLink RX5 293 yX0_power, Cond.instanceMethod yX0_power, Cond.selects RX0 yX0_power yX0_power, Cond.code yX0_power cX0_power 4 (some .int), Cond.methodLink RX0 73 Lib.Math.max.name, Cond.static Lib.Math.max.name, Cond.initialized "java/lang/Math", Cond.code Lib.Math.max.name Lib.Math.max.code 2 (some .int), Cond.methodLink RX0 70 yX0_lowestClosed, Cond.instanceMethod yX0_lowestClosed, Cond.selects RX0 yX0_lowestClosed yX0_lowestClosed, Cond.code yX0_lowestClosed cX0_lowestClosed 2 (some .int)]
def wsL_ifSpeed_r5 : List Cond := [Cond.methodLink RX5 321 yX0_lack, Cond.instanceMethod yX0_lack, Cond.selects RX0 yX0_lack yX0_lack, Cond.code yX0_lack cX0_lack 2 (some .int)]
def wsL_ifSpeed : List Cond := .codeWith yL_ifSpeed cL_ifSpeed 6 (some .int) [(0, 12, 15, 13), (0, 12, 19, 15)] :: ((wsL_ifSpeed_r1 ++ (wsL_ifSpeed_r2 ++ (wsL_ifSpeed_r3 ++ (wsL_ifSpeed_r4 ++ wsL_ifSpeed_r5)))) ++ wsX50 ++ wsX00 ++ wsX10 ++ wsX20 ++ (vx_atS RX5 273 "java/lang/IndexOutOfBoundsException" ["java/lang/RuntimeException", "java/lang/Exception"]).filter goodWord ++ (vx_atS RX5 172 "java/lang/IllegalArgumentException" ["java/lang/RuntimeException", "java/lang/Exception"]).filter goodWord)
def wsL_closeIn_r1 : List Cond := [Cond.classLink RL 13 "java/lang/IndexOutOfBoundsException", Cond.methodLink RL 76 yX5_closeIn, Cond.instanceMethod yX5_closeIn, Cond.selects RX5 yX5_closeIn yX5_closeIn, Cond.initialized RX5, Cond.code yX5_closeIn cX5_closeIn 2 (some .int), Cond.methodLink RX5 36 yX5_needSet, Cond.static yX5_needSet, Cond.code yX5_needSet cX5_needSet 1 none, Cond.classLink RX5 269 "java/lang/IndexOutOfBoundsException", Cond.initialized "java/lang/IndexOutOfBoundsException", Cond.methodLink RX5 265 yX5_isSet, Cond.static yX5_isSet, Cond.code yX5_isSet cX5_isSet 1 (some .boolean), Cond.methodLink RX5 213 yX5_ticksUntilClosing, Cond.instanceMethod yX5_ticksUntilClosing, Cond.selects RX5 yX5_ticksUntilClosing yX5_ticksUntilClosing, Cond.code yX5_ticksUntilClosing cX5_ticksUntilClosing 3 (some .int), Cond.fieldLink RX5 10 "DroopBoard" "board" "LDroopBoard$Board;", Cond.fieldLink RX5 44 "DroopBoard$Board" "diesels" "[LDroopBoard$Diesel;", Cond.fieldLink RX5 48 "DroopBoard$Diesel" "runs" "Z", Cond.fieldLink RX5 16 "DroopBoard" "trial" "LDroopBoard$Board;", Cond.methodLink RX5 180 yX0_copyFrom, Cond.instanceMethod yX0_copyFrom]
def wsL_closeIn_r2 : List Cond := [Cond.selects RX0 yX0_copyFrom yX0_copyFrom, Cond.initialized RX0, Cond.code yX0_copyFrom cX0_copyFrom 3 none, Cond.fieldLink RX0 11 "DroopBoard$Board" "diesels" "[LDroopBoard$Diesel;", Cond.fieldLink RX0 19 "DroopBoard$Board" "feeders" "[LDroopBoard$Feeder;", Cond.fieldLink RX0 23 "DroopBoard$Board" "settings" "[I", Cond.fieldLink RX0 38 "DroopBoard$Board" "ticks" "I", Cond.fieldLink RX0 42 "DroopBoard$Board" "energy" "I", Cond.methodLink RX0 31 yX1_copyFrom, Cond.instanceMethod yX1_copyFrom, Cond.selects RX1 yX1_copyFrom yX1_copyFrom, Cond.initialized RX1, Cond.code yX1_copyFrom cX1_copyFrom 2 none, Cond.fieldLink RX1 16 "DroopBoard$Diesel" "rating" "I", Cond.fieldLink RX1 7 "DroopBoard$Diesel" "droop" "I", Cond.fieldLink RX1 13 "DroopBoard$Diesel" "speed" "I", Cond.fieldLink RX1 19 "DroopBoard$Diesel" "runs" "Z", Cond.fieldLink RX1 23 "DroopBoard$Diesel" "closed" "Z", Cond.fieldLink RX1 26 "DroopBoard$Diesel" "phase" "I", Cond.fieldLink RX1 29 "DroopBoard$Diesel" "overloaded" "I", Cond.fieldLink RX1 32 "DroopBoard$Diesel" "driven" "I", Cond.fieldLink RX1 35 "DroopBoard$Diesel" "energy" "I", Cond.fieldLink RX1 38 "DroopBoard$Diesel" "trips" "I", Cond.methodLink RX0 35 yX2_copyFrom]
def wsL_closeIn_r3 : List Cond := [Cond.instanceMethod yX2_copyFrom, Cond.selects RX2 yX2_copyFrom yX2_copyFrom, Cond.initialized RX2, Cond.code yX2_copyFrom cX2_copyFrom 2 none, Cond.fieldLink RX2 13 "DroopBoard$Feeder" "load" "I", Cond.fieldLink RX2 7 "DroopBoard$Feeder" "on" "Z", Cond.fieldLink RX2 17 "DroopBoard$Feeder" "sheds" "I", Cond.methodLink RX5 96 yX0_whyNotClosed, Cond.instanceMethod yX0_whyNotClosed, Cond.selects RX0 yX0_whyNotClosed yX0_whyNotClosed, Cond.code yX0_whyNotClosed cX0_whyNotClosed 3 (some .int), Cond.fieldLink RX0 82 "DroopBoard$Diesel" "runs" "Z", Cond.fieldLink RX0 45 "DroopBoard$Diesel" "closed" "Z", Cond.fieldLink RX0 85 "DroopBoard$Diesel" "speed" "I", Cond.methodLink RX0 91 Lib.Math.abs.name, Cond.static Lib.Math.abs.name, Cond.initialized "java/lang/Math", Cond.code Lib.Math.abs.name Lib.Math.abs.code 1 (some .int), Cond.methodLink RX0 49 yX0_alive, Cond.instanceMethod yX0_alive, Cond.selects RX0 yX0_alive yX0_alive, Cond.code yX0_alive cX0_alive 2 (some .boolean), Cond.methodLink RX0 88 yX0_frequency, Cond.instanceMethod yX0_frequency]
def wsL_closeIn_r4 : List Cond := [Cond.selects RX0 yX0_frequency yX0_frequency, Cond.code yX0_frequency cX0_frequency 6 (some .int), Cond.methodLink RX0 63 yX0_demand, Cond.instanceMethod yX0_demand, Cond.selects RX0 yX0_demand yX0_demand, Cond.code yX0_demand cX0_demand 3 (some .int), Cond.fieldLink RX0 53 "DroopBoard$Feeder" "on" "Z", Cond.fieldLink RX0 56 "DroopBoard$Feeder" "load" "I", Cond.methodLink RX0 67 yX0_total, Cond.instanceMethod yX0_total, Cond.selects RX0 yX0_total yX0_total, Cond.code yX0_total cX0_total 4 (some .int), Cond.methodLink RX0 59 yX1_gives, Cond.instanceMethod yX1_gives, Cond.selects RX1 yX1_gives yX1_gives, Cond.code yX1_gives cX1_gives 2 (some .int), Cond.methodLink RX0 94 yX1_lamps, Cond.instanceMethod yX1_lamps, Cond.selects RX1 yX1_lamps yX1_lamps, Cond.code yX1_lamps cX1_lamps 1 (some .int), Cond.methodLink RX1 44 Lib.Math.min.name, Cond.static Lib.Math.min.name, Cond.code Lib.Math.min.name Lib.Math.min.code 2 (some .int), Cond.methodLink RX5 219 yX0_tick]
def wsL_closeIn_r5 : List Cond := [Cond.instanceMethod yX0_tick, Cond.selects RX0 yX0_tick yX0_tick, Cond.code yX0_tick cX0_tick 4 (some .int), Cond.methodLink RX0 100 yX0_lack, Cond.instanceMethod yX0_lack, Cond.selects RX0 yX0_lack yX0_lack, Cond.code yX0_lack cX0_lack 2 (some .int), Cond.methodLink RX0 73 Lib.Math.max.name, Cond.static Lib.Math.max.name, Cond.code Lib.Math.max.name Lib.Math.max.code 2 (some .int), Cond.methodLink RX0 79 yX0_power, Cond.instanceMethod yX0_power, Cond.selects RX0 yX0_power yX0_power, Cond.code yX0_power cX0_power 4 (some .int), Cond.methodLink RX0 70 yX0_lowestClosed, Cond.instanceMethod yX0_lowestClosed, Cond.selects RX0 yX0_lowestClosed yX0_lowestClosed, Cond.code yX0_lowestClosed cX0_lowestClosed 2 (some .int), Cond.methodLink RX0 103 yX1_tick, Cond.instanceMethod yX1_tick, Cond.selects RX1 yX1_tick yX1_tick, Cond.code yX1_tick cX1_tick 3 none, Cond.methodLink RX1 50 yJ9_floorMod_7cf53, Cond.static yJ9_floorMod_7cf53]
def wsL_closeIn_r6 : List Cond := [Cond.initialized RJ9, Cond.code yJ9_floorMod_7cf53 cJ9_floorMod_7cf53 3 (some .int), Cond.methodLink RX0 106 yX0_shed, Cond.instanceMethod yX0_shed, Cond.selects RX0 yX0_shed yX0_shed, Cond.code yX0_shed cX0_shed 2 none, Cond.fieldLink RX0 112 "DroopBoard$Feeder" "sheds" "I", Cond.methodLink RX0 109 yX0_trip, Cond.instanceMethod yX0_trip, Cond.selects RX0 yX0_trip yX0_trip, Cond.code yX0_trip cX0_trip 4 (some .int), Cond.fieldLink RX0 115 "DroopBoard$Diesel" "overloaded" "I", Cond.fieldLink RX0 118 "DroopBoard$Diesel" "driven" "I", Cond.fieldLink RX0 124 "DroopBoard$Diesel" "trips" "I", Cond.methodLink RX0 121 yX1_openBreaker, Cond.instanceMethod yX1_openBreaker, Cond.selects RX1 yX1_openBreaker yX1_openBreaker, Cond.code yX1_openBreaker cX1_openBreaker 1 none, Cond.methodLink RX1 41 yX1_beginAnew, Cond.instanceMethod yX1_beginAnew, Cond.selects RX1 yX1_beginAnew yX1_beginAnew, Cond.code yX1_beginAnew cX1_beginAnew 1 none]
def wsL_closeIn : List Cond := .codeWith yL_closeIn cL_closeIn 4 (some .int) [(0, 9, 12, 13)] :: ((wsL_closeIn_r1 ++ (wsL_closeIn_r2 ++ (wsL_closeIn_r3 ++ (wsL_closeIn_r4 ++ (wsL_closeIn_r5 ++ wsL_closeIn_r6))))) ++ wsX50 ++ wsX00 ++ wsX10 ++ wsX20 ++ (vx_atS RX5 273 "java/lang/IndexOutOfBoundsException" ["java/lang/RuntimeException", "java/lang/Exception"]).filter goodWord)
def wsL_fairSpeed_r1 : List Cond := [Cond.classLink RL 13 "java/lang/IndexOutOfBoundsException", Cond.methodLink RL 79 yX5_fairSpeed, Cond.instanceMethod yX5_fairSpeed, Cond.selects RX5 yX5_fairSpeed yX5_fairSpeed, Cond.initialized RX5, Cond.code yX5_fairSpeed cX5_fairSpeed 2 (some .int), Cond.methodLink RX5 36 yX5_needSet, Cond.static yX5_needSet, Cond.code yX5_needSet cX5_needSet 1 none, Cond.classLink RX5 269 "java/lang/IndexOutOfBoundsException", Cond.initialized "java/lang/IndexOutOfBoundsException", Cond.methodLink RX5 265 yX5_isSet, Cond.static yX5_isSet, Cond.code yX5_isSet cX5_isSet 1 (some .boolean), Cond.methodLink RX5 216 yX5_speedForFairShare, Cond.instanceMethod yX5_speedForFairShare, Cond.selects RX5 yX5_speedForFairShare yX5_speedForFairShare, Cond.code yX5_speedForFairShare cX5_speedForFairShare 8 (some .int), Cond.fieldLink RX5 10 "DroopBoard" "board" "LDroopBoard$Board;", Cond.fieldLink RX5 44 "DroopBoard$Board" "diesels" "[LDroopBoard$Diesel;", Cond.fieldLink RX5 108 "DroopBoard$Diesel" "closed" "Z", Cond.fieldLink RX5 65 "DroopBoard$Diesel" "rating" "I", Cond.fieldLink RX5 16 "DroopBoard" "trial" "LDroopBoard$Board;", Cond.fieldLink RX5 72 "DroopBoard$Diesel" "speed" "I"]
def wsL_fairSpeed_r2 : List Cond := [Cond.methodLink RX5 331 Lib.Math.abs.name, Cond.static Lib.Math.abs.name, Cond.initialized "java/lang/Math", Cond.code Lib.Math.abs.name Lib.Math.abs.code 1 (some .int), Cond.methodLink RX5 222 yX0_ratingsClosed, Cond.instanceMethod yX0_ratingsClosed, Cond.selects RX0 yX0_ratingsClosed yX0_ratingsClosed, Cond.initialized RX0, Cond.code yX0_ratingsClosed cX0_ratingsClosed 3 (some .int), Cond.fieldLink RX0 11 "DroopBoard$Board" "diesels" "[LDroopBoard$Diesel;", Cond.fieldLink RX0 45 "DroopBoard$Diesel" "closed" "Z", Cond.fieldLink RX0 131 "DroopBoard$Diesel" "rating" "I", Cond.methodLink RX5 225 yX0_demand, Cond.instanceMethod yX0_demand, Cond.selects RX0 yX0_demand yX0_demand, Cond.code yX0_demand cX0_demand 3 (some .int), Cond.fieldLink RX0 19 "DroopBoard$Board" "feeders" "[LDroopBoard$Feeder;", Cond.fieldLink RX0 53 "DroopBoard$Feeder" "on" "Z", Cond.fieldLink RX0 56 "DroopBoard$Feeder" "load" "I", Cond.methodLink RX0 49 yX0_alive, Cond.instanceMethod yX0_alive, Cond.selects RX0 yX0_alive yX0_alive, Cond.code yX0_alive cX0_alive 2 (some .boolean), Cond.methodLink RX5 180 yX0_copyFrom]
def wsL_fairSpeed_r3 : List Cond := [Cond.instanceMethod yX0_copyFrom, Cond.selects RX0 yX0_copyFrom yX0_copyFrom, Cond.code yX0_copyFrom cX0_copyFrom 3 none, Cond.fieldLink RX0 23 "DroopBoard$Board" "settings" "[I", Cond.fieldLink RX0 38 "DroopBoard$Board" "ticks" "I", Cond.fieldLink RX0 42 "DroopBoard$Board" "energy" "I", Cond.methodLink RX0 31 yX1_copyFrom, Cond.instanceMethod yX1_copyFrom, Cond.selects RX1 yX1_copyFrom yX1_copyFrom, Cond.initialized RX1, Cond.code yX1_copyFrom cX1_copyFrom 2 none, Cond.fieldLink RX1 16 "DroopBoard$Diesel" "rating" "I", Cond.fieldLink RX1 7 "DroopBoard$Diesel" "droop" "I", Cond.fieldLink RX1 13 "DroopBoard$Diesel" "speed" "I", Cond.fieldLink RX1 19 "DroopBoard$Diesel" "runs" "Z", Cond.fieldLink RX1 23 "DroopBoard$Diesel" "closed" "Z", Cond.fieldLink RX1 26 "DroopBoard$Diesel" "phase" "I", Cond.fieldLink RX1 29 "DroopBoard$Diesel" "overloaded" "I", Cond.fieldLink RX1 32 "DroopBoard$Diesel" "driven" "I", Cond.fieldLink RX1 35 "DroopBoard$Diesel" "energy" "I", Cond.fieldLink RX1 38 "DroopBoard$Diesel" "trips" "I", Cond.methodLink RX0 35 yX2_copyFrom, Cond.instanceMethod yX2_copyFrom, Cond.selects RX2 yX2_copyFrom yX2_copyFrom]
def wsL_fairSpeed_r4 : List Cond := [Cond.initialized RX2, Cond.code yX2_copyFrom cX2_copyFrom 2 none, Cond.fieldLink RX2 13 "DroopBoard$Feeder" "load" "I", Cond.fieldLink RX2 7 "DroopBoard$Feeder" "on" "Z", Cond.fieldLink RX2 17 "DroopBoard$Feeder" "sheds" "I", Cond.methodLink RX5 105 yX0_frequency, Cond.instanceMethod yX0_frequency, Cond.selects RX0 yX0_frequency yX0_frequency, Cond.code yX0_frequency cX0_frequency 6 (some .int), Cond.methodLink RX0 63 yX0_demand, Cond.methodLink RX0 67 yX0_total, Cond.instanceMethod yX0_total, Cond.selects RX0 yX0_total yX0_total, Cond.code yX0_total cX0_total 4 (some .int), Cond.methodLink RX0 59 yX1_gives, Cond.instanceMethod yX1_gives, Cond.selects RX1 yX1_gives yX1_gives, Cond.code yX1_gives cX1_gives 2 (some .int), Cond.methodLink RX5 293 yX0_power, Cond.instanceMethod yX0_power, Cond.selects RX0 yX0_power yX0_power, Cond.code yX0_power cX0_power 4 (some .int), Cond.methodLink RX0 73 Lib.Math.max.name, Cond.static Lib.Math.max.name]
def wsL_fairSpeed_r5 : List Cond := [Cond.code Lib.Math.max.name Lib.Math.max.code 2 (some .int), Cond.methodLink RX0 70 yX0_lowestClosed, Cond.instanceMethod yX0_lowestClosed, Cond.selects RX0 yX0_lowestClosed yX0_lowestClosed, Cond.code yX0_lowestClosed cX0_lowestClosed 2 (some .int)]
def wsL_fairSpeed : List Cond := .codeWith yL_fairSpeed cL_fairSpeed 4 (some .int) [(0, 9, 12, 13)] :: ((wsL_fairSpeed_r1 ++ (wsL_fairSpeed_r2 ++ (wsL_fairSpeed_r3 ++ (wsL_fairSpeed_r4 ++ wsL_fairSpeed_r5)))) ++ wsX50 ++ wsX00 ++ wsX10 ++ wsX20 ++ (vx_atS RX5 273 "java/lang/IndexOutOfBoundsException" ["java/lang/RuntimeException", "java/lang/Exception"]).filter goodWord)
def wsL_law0_r1 : List Cond := [Cond.classLink RL 8 RX5, Cond.instantiable RX5 6, Cond.initialized RX5, Cond.classLink RL 83 RX6, Cond.instantiable RX6 17, Cond.initialized RX6, Cond.arrayClass .long, Cond.methodLink RL 82 yX5_init, Cond.instanceMethod yX5_init, Cond.code yX5_init cX5_init 1 none, Cond.methodLink RX5 1 objectInit, Cond.instanceMethod objectInit, Cond.code objectInit ⟨#[0xb1]⟩ 1 none, Cond.classLink RX5 7 RX0, Cond.instantiable RX0 5, Cond.initialized RX0, Cond.fieldLink RX5 10 "DroopBoard" "board" "LDroopBoard$Board;", Cond.fieldLink RX5 16 "DroopBoard" "trial" "LDroopBoard$Board;", Cond.fieldLink RX5 19 "DroopBoard" "snapshot" "LDroopBoard$Board;", Cond.classLink RX5 22 RX3, Cond.instantiable RX3 2, Cond.initialized RX3, Cond.fieldLink RX5 25 "DroopBoard" "history" "LDroopBoard$History;", Cond.classLink RX5 29 RX4]
def wsL_law0_r2 : List Cond := [Cond.instantiable RX4 2, Cond.initialized RX4, Cond.fieldLink RX5 32 "DroopBoard" "text" "LDroopBoard$OrderText;", Cond.methodLink RX5 9 yX0_init, Cond.instanceMethod yX0_init, Cond.code yX0_init cX0_init 2 none, Cond.methodLink RX0 3 objectInit, Cond.classLink RX0 9 RX1, Cond.fieldLink RX0 11 "DroopBoard$Board" "diesels" "[LDroopBoard$Diesel;", Cond.classLink RX0 17 RX2, Cond.fieldLink RX0 19 "DroopBoard$Board" "feeders" "[LDroopBoard$Feeder;", Cond.arrayClass .int, Cond.fieldLink RX0 23 "DroopBoard$Board" "settings" "[I", Cond.instantiable RX1 10, Cond.initialized RX1, Cond.instantiable RX2 3, Cond.initialized RX2, Cond.methodLink RX0 27 yX1_init, Cond.instanceMethod yX1_init, Cond.code yX1_init cX1_init 2 none, Cond.methodLink RX1 1 objectInit, Cond.fieldLink RX1 7 "DroopBoard$Diesel" "droop" "I", Cond.fieldLink RX1 13 "DroopBoard$Diesel" "speed" "I", Cond.fieldLink RX1 16 "DroopBoard$Diesel" "rating" "I"]
def wsL_law0_r3 : List Cond := [Cond.instanceMethod yX2_init, Cond.code yX2_init cX2_init 1 none, Cond.methodLink RX2 1 objectInit, Cond.fieldLink RX2 7 "DroopBoard$Feeder" "on" "Z", Cond.methodLink RX5 24 yX3_init, Cond.instanceMethod yX3_init, Cond.code yX3_init cX3_init 2 none, Cond.methodLink RX3 3 objectInit, Cond.classLink RX3 9 RX0, Cond.fieldLink RX3 11 "DroopBoard$History" "states" "[LDroopBoard$Board;", Cond.methodLink RX3 17 yX0_init, Cond.instanceMethod yX4_init, Cond.code yX4_init cX4_init 1 none, Cond.methodLink RX4 3 objectInit, Cond.fieldLink RX4 9 "DroopBoard$OrderText" "codes" "[I", Cond.methodLink RL 85 yX6_init, Cond.instanceMethod yX6_init, Cond.code yX6_init cX6_init 2 none, Cond.methodLink RX6 1 objectInit, Cond.fieldLink RX6 7 "DroopBoardModel" "row" "[I", Cond.fieldLink RX6 13 "DroopBoardModel" "saved" "[I", Cond.fieldLink RX6 16 "DroopBoardModel" "snapshot" "[I", Cond.fieldLink RX6 19 "DroopBoardModel" "aside" "[I", Cond.fieldLink RX6 22 "DroopBoardModel" "powers" "[I"]
def wsL_law0_r4 : List Cond := [Cond.fieldLink RX6 25 "DroopBoardModel" "buffer" "[I", Cond.fieldLink RX6 28 "DroopBoardModel" "letter" "[I", Cond.fieldLink RX6 31 "DroopBoardModel" "first" "[I", Cond.fieldLink RX6 34 "DroopBoardModel" "second" "[I", Cond.methodLink RX6 37 yX6_put, Cond.instanceMethod yX6_put, Cond.selects RX6 yX6_put yX6_put, Cond.code yX6_put cX6_put 4 none, Cond.methodLink RL 86 yL_build, Cond.static yL_build, Cond.initialized RL, Cond.codeWith yL_build cL_build 6 (some .int) [(0, 12, 15, 13), (0, 12, 19, 15), (0, 12, 23, 17)], Cond.classLink RL 13 "java/lang/IndexOutOfBoundsException", Cond.classLink RL 15 "java/lang/IllegalArgumentException", Cond.classLink RL 17 "java/lang/IllegalStateException", Cond.methodLink RL 7 yX5_build, Cond.instanceMethod yX5_build, Cond.selects RX5 yX5_build yX5_build, Cond.code yX5_build cX5_build 6 (some .int), Cond.classLink RX5 54 "java/lang/IllegalStateException", Cond.initialized "java/lang/IllegalStateException", Cond.fieldLink RX5 44 "DroopBoard$Board" "diesels" "[LDroopBoard$Diesel;", Cond.fieldLink RX5 48 "DroopBoard$Diesel" "runs" "Z", Cond.fieldLink RX5 65 "DroopBoard$Diesel" "rating" "I"]
def wsL_law0_r5 : List Cond := [Cond.fieldLink RX5 69 "DroopBoard$Diesel" "droop" "I", Cond.methodLink RX5 36 yX5_needSet, Cond.static yX5_needSet, Cond.code yX5_needSet cX5_needSet 1 none, Cond.classLink RX5 269 "java/lang/IndexOutOfBoundsException", Cond.initialized "java/lang/IndexOutOfBoundsException", Cond.methodLink RX5 265 yX5_isSet, Cond.static yX5_isSet, Cond.code yX5_isSet cX5_isSet 1 (some .boolean), Cond.methodLink RX5 40 yX5_needRange, Cond.static yX5_needRange, Cond.code yX5_needRange cX5_needRange 3 none, Cond.classLink RX5 168 "java/lang/IllegalArgumentException", Cond.initialized "java/lang/IllegalArgumentException", Cond.methodLink RX5 61 yX3_save, Cond.instanceMethod yX3_save, Cond.selects RX3 yX3_save yX3_save, Cond.code yX3_save cX3_save 2 none, Cond.fieldLink RX3 18 "DroopBoard$History" "size" "I", Cond.methodLink RX3 22 yX3_dropOldest, Cond.instanceMethod yX3_dropOldest, Cond.selects RX3 yX3_dropOldest yX3_dropOldest, Cond.code yX3_dropOldest cX3_dropOldest 3 none, Cond.methodLink RX3 25 yX0_copyFrom]
def wsL_law0_r6 : List Cond := [Cond.instanceMethod yX0_copyFrom, Cond.selects RX0 yX0_copyFrom yX0_copyFrom, Cond.code yX0_copyFrom cX0_copyFrom 3 none, Cond.fieldLink RX0 38 "DroopBoard$Board" "ticks" "I", Cond.fieldLink RX0 42 "DroopBoard$Board" "energy" "I", Cond.methodLink RX0 31 yX1_copyFrom, Cond.instanceMethod yX1_copyFrom, Cond.selects RX1 yX1_copyFrom yX1_copyFrom, Cond.code yX1_copyFrom cX1_copyFrom 2 none, Cond.fieldLink RX1 19 "DroopBoard$Diesel" "runs" "Z", Cond.fieldLink RX1 23 "DroopBoard$Diesel" "closed" "Z", Cond.fieldLink RX1 26 "DroopBoard$Diesel" "phase" "I", Cond.fieldLink RX1 29 "DroopBoard$Diesel" "overloaded" "I", Cond.fieldLink RX1 32 "DroopBoard$Diesel" "driven" "I", Cond.fieldLink RX1 35 "DroopBoard$Diesel" "energy" "I", Cond.fieldLink RX1 38 "DroopBoard$Diesel" "trips" "I", Cond.methodLink RX0 35 yX2_copyFrom, Cond.instanceMethod yX2_copyFrom, Cond.selects RX2 yX2_copyFrom yX2_copyFrom, Cond.code yX2_copyFrom cX2_copyFrom 2 none, Cond.fieldLink RX2 13 "DroopBoard$Feeder" "load" "I", Cond.fieldLink RX2 17 "DroopBoard$Feeder" "sheds" "I", Cond.methodLink RL 91 yX6_build, Cond.instanceMethod yX6_build]
def wsL_law0_r7 : List Cond := [Cond.selects RX6 yX6_build yX6_build, Cond.code yX6_build cX6_build 5 (some .int), Cond.fieldLink RX6 41 "DroopBoardModel" "thrown" "I", Cond.methodLink RX6 112 yX6_isSet, Cond.static yX6_isSet, Cond.code yX6_isSet cX6_isSet 1 (some .boolean), Cond.methodLink RX6 45 yX6_in, Cond.static yX6_in, Cond.code yX6_in cX6_in 3 (some .boolean), Cond.methodLink RX6 116 yX6_fails, Cond.instanceMethod yX6_fails, Cond.selects RX6 yX6_fails yX6_fails, Cond.code yX6_fails cX6_fails 2 (some .int), Cond.methodLink RX6 52 yX6_of, Cond.instanceMethod yX6_of, Cond.selects RX6 yX6_of yX6_of, Cond.code yX6_of cX6_of 3 (some .int), Cond.methodLink RX6 119 yX6_save, Cond.instanceMethod yX6_save, Cond.selects RX6 yX6_save yX6_save, Cond.code yX6_save cX6_save 2 none, Cond.fieldLink RX6 49 "DroopBoardModel" "savedMany" "I", Cond.methodLink RL 92 yX6_thrown, Cond.instanceMethod yX6_thrown]
def wsL_law0_r8 : List Cond := [Cond.selects RX6 yX6_thrown yX6_thrown, Cond.code yX6_thrown cX6_thrown 1 (some .int), Cond.methodLink RL 95 yL_speed, Cond.static yL_speed, Cond.codeWith yL_speed cL_speed 5 (some .int) [(0, 10, 13, 13), (0, 10, 17, 15)], Cond.methodLink RL 19 yX5_speed, Cond.instanceMethod yX5_speed, Cond.selects RX5 yX5_speed yX5_speed, Cond.code yX5_speed cX5_speed 4 (some .int), Cond.fieldLink RX5 72 "DroopBoard$Diesel" "speed" "I", Cond.methodLink RL 98 yX6_speed, Cond.instanceMethod yX6_speed, Cond.selects RX6 yX6_speed yX6_speed, Cond.code yX6_speed cX6_speed 3 (some .int), Cond.methodLink RX6 122 yX6_speedNow, Cond.instanceMethod yX6_speedNow, Cond.selects RX6 yX6_speedNow yX6_speedNow, Cond.code yX6_speedNow cX6_speedNow 4 (some .int), Cond.methodLink RL 99 yL_run, Cond.static yL_run, Cond.codeWith yL_run cL_run 4 (some .int) [(0, 9, 12, 13), (0, 9, 15, 17)], Cond.methodLink RL 23 yX5_run, Cond.instanceMethod yX5_run, Cond.selects RX5 yX5_run yX5_run]
def wsL_law0_r9 : List Cond := [Cond.code yX5_run cX5_run 2 (some .int), Cond.methodLink RX5 75 yX1_canStart, Cond.instanceMethod yX1_canStart, Cond.selects RX1 yX1_canStart yX1_canStart, Cond.code yX1_canStart cX1_canStart 1 (some .boolean), Cond.methodLink RX5 81 yX1_start, Cond.instanceMethod yX1_start, Cond.selects RX1 yX1_start yX1_start, Cond.code yX1_start cX1_start 1 none, Cond.methodLink RX1 41 yX1_beginAnew, Cond.instanceMethod yX1_beginAnew, Cond.selects RX1 yX1_beginAnew yX1_beginAnew, Cond.code yX1_beginAnew cX1_beginAnew 1 none, Cond.methodLink RX5 84 yX0_running, Cond.instanceMethod yX0_running, Cond.selects RX0 yX0_running yX0_running, Cond.code yX0_running cX0_running 3 (some .int), Cond.fieldLink RX0 82 "DroopBoard$Diesel" "runs" "Z", Cond.static yX5_oneIf, Cond.code yX5_oneIf cX5_oneIf 1 (some .int), Cond.methodLink RL 102 yX6_run, Cond.instanceMethod yX6_run, Cond.selects RX6 yX6_run yX6_run, Cond.code yX6_run cX6_run 2 (some .int)]
def wsL_law0_r10 : List Cond := [Cond.methodLink RX6 125 yX6_runNow, Cond.instanceMethod yX6_runNow, Cond.selects RX6 yX6_runNow yX6_runNow, Cond.code yX6_runNow cX6_runNow 2 (some .int), Cond.methodLink RX6 92 yX6_rest, Cond.instanceMethod yX6_rest, Cond.selects RX6 yX6_rest yX6_rest, Cond.code yX6_rest cX6_rest 2 none, Cond.methodLink RX6 56 yX6_sum, Cond.instanceMethod yX6_sum, Cond.selects RX6 yX6_sum yX6_sum, Cond.code yX6_sum cX6_sum 2 (some .int), Cond.methodLink RL 103 yL_halt, Cond.static yL_halt, Cond.codeWith yL_halt cL_halt 4 (some .int) [(0, 9, 12, 13), (0, 9, 15, 17)], Cond.methodLink RL 27 yX5_halt, Cond.instanceMethod yX5_halt, Cond.selects RX5 yX5_halt yX5_halt, Cond.code yX5_halt cX5_halt 2 (some .int), Cond.methodLink RX5 88 yX1_canStop, Cond.instanceMethod yX1_canStop, Cond.selects RX1 yX1_canStop yX1_canStop, Cond.code yX1_canStop cX1_canStop 1 (some .boolean), Cond.methodLink RX5 93 yX1_stop]
def wsL_law0_r11 : List Cond := [Cond.instanceMethod yX1_stop, Cond.selects RX1 yX1_stop yX1_stop, Cond.code yX1_stop cX1_stop 1 none, Cond.methodLink RL 105 yX6_halt, Cond.instanceMethod yX6_halt, Cond.selects RX6 yX6_halt yX6_halt, Cond.code yX6_halt cX6_halt 2 (some .int), Cond.methodLink RX6 128 yX6_canHalt, Cond.instanceMethod yX6_canHalt, Cond.selects RX6 yX6_canHalt yX6_canHalt, Cond.code yX6_canHalt cX6_canHalt 2 (some .boolean), Cond.methodLink RX6 131 yX6_haltNow, Cond.instanceMethod yX6_haltNow, Cond.selects RX6 yX6_haltNow yX6_haltNow, Cond.code yX6_haltNow cX6_haltNow 2 (some .int), Cond.methodLink RL 106 yL_close, Cond.static yL_close, Cond.codeWith yL_close cL_close 4 (some .int) [(0, 9, 12, 13), (0, 9, 15, 17)], Cond.methodLink RL 30 yX5_close, Cond.instanceMethod yX5_close, Cond.selects RX5 yX5_close yX5_close, Cond.code yX5_close cX5_close 2 (some .int), Cond.methodLink RX5 96 yX0_whyNotClosed, Cond.instanceMethod yX0_whyNotClosed]
def wsL_law0_r12 : List Cond := [Cond.selects RX0 yX0_whyNotClosed yX0_whyNotClosed, Cond.code yX0_whyNotClosed cX0_whyNotClosed 3 (some .int), Cond.fieldLink RX0 45 "DroopBoard$Diesel" "closed" "Z", Cond.fieldLink RX0 85 "DroopBoard$Diesel" "speed" "I", Cond.methodLink RX0 91 Lib.Math.abs.name, Cond.static Lib.Math.abs.name, Cond.initialized "java/lang/Math", Cond.code Lib.Math.abs.name Lib.Math.abs.code 1 (some .int), Cond.methodLink RX0 49 yX0_alive, Cond.instanceMethod yX0_alive, Cond.selects RX0 yX0_alive yX0_alive, Cond.code yX0_alive cX0_alive 2 (some .boolean), Cond.methodLink RX0 88 yX0_frequency, Cond.instanceMethod yX0_frequency, Cond.selects RX0 yX0_frequency yX0_frequency, Cond.code yX0_frequency cX0_frequency 6 (some .int), Cond.methodLink RX0 63 yX0_demand, Cond.instanceMethod yX0_demand, Cond.selects RX0 yX0_demand yX0_demand, Cond.code yX0_demand cX0_demand 3 (some .int), Cond.fieldLink RX0 53 "DroopBoard$Feeder" "on" "Z", Cond.fieldLink RX0 56 "DroopBoard$Feeder" "load" "I", Cond.methodLink RX0 67 yX0_total, Cond.instanceMethod yX0_total]
def wsL_law0_r13 : List Cond := [Cond.selects RX0 yX0_total yX0_total, Cond.code yX0_total cX0_total 4 (some .int), Cond.methodLink RX0 59 yX1_gives, Cond.instanceMethod yX1_gives, Cond.selects RX1 yX1_gives yX1_gives, Cond.code yX1_gives cX1_gives 2 (some .int), Cond.methodLink RX0 94 yX1_lamps, Cond.instanceMethod yX1_lamps, Cond.selects RX1 yX1_lamps yX1_lamps, Cond.code yX1_lamps cX1_lamps 1 (some .int), Cond.methodLink RX1 44 Lib.Math.min.name, Cond.static Lib.Math.min.name, Cond.code Lib.Math.min.name Lib.Math.min.code 2 (some .int), Cond.methodLink RX5 102 yX1_closeBreaker, Cond.instanceMethod yX1_closeBreaker, Cond.selects RX1 yX1_closeBreaker yX1_closeBreaker, Cond.code yX1_closeBreaker cX1_closeBreaker 1 none, Cond.methodLink RX5 105 yX0_frequency, Cond.methodLink RL 108 yX6_close, Cond.instanceMethod yX6_close, Cond.selects RX6 yX6_close yX6_close, Cond.code yX6_close cX6_close 2 (some .int), Cond.methodLink RX6 134 yX6_reason, Cond.instanceMethod yX6_reason]
def wsL_law0_r14 : List Cond := [Cond.selects RX6 yX6_reason yX6_reason, Cond.code yX6_reason cX6_reason 2 (some .int), Cond.methodLink RX6 60 yX6_isAlive, Cond.instanceMethod yX6_isAlive, Cond.selects RX6 yX6_isAlive yX6_isAlive, Cond.code yX6_isAlive cX6_isAlive 1 (some .boolean), Cond.methodLink RX6 77 yX6_frequency, Cond.instanceMethod yX6_frequency, Cond.selects RX6 yX6_frequency yX6_frequency, Cond.code yX6_frequency cX6_frequency 3 (some .int), Cond.methodLink RX6 70 yX6_load, Cond.instanceMethod yX6_load, Cond.selects RX6 yX6_load yX6_load, Cond.code yX6_load cX6_load 3 (some .int), Cond.methodLink RX6 64 yX6_ofLine, Cond.instanceMethod yX6_ofLine, Cond.selects RX6 yX6_ofLine yX6_ofLine, Cond.code yX6_ofLine cX6_ofLine 3 (some .int), Cond.methodLink RX6 74 yX6_givenByAll, Cond.instanceMethod yX6_givenByAll, Cond.selects RX6 yX6_givenByAll yX6_givenByAll, Cond.code yX6_givenByAll cX6_givenByAll 2 (some .int), Cond.methodLink RX6 67 yX6_given, Cond.instanceMethod yX6_given]
def wsL_law0_r15 : List Cond := [Cond.selects RX6 yX6_given yX6_given, Cond.code yX6_given cX6_given 3 (some .int), Cond.methodLink RX6 86 yX6_size, Cond.static yX6_size, Cond.code yX6_size cX6_size 1 (some .int), Cond.methodLink RX6 89 yX6_lamps, Cond.static yX6_lamps, Cond.code yX6_lamps cX6_lamps 1 (some .int), Cond.methodLink RX6 137 yX6_switchNow, Cond.instanceMethod yX6_switchNow, Cond.selects RX6 yX6_switchNow yX6_switchNow, Cond.code yX6_switchNow cX6_switchNow 3 (some .int), Cond.methodLink RL 109 yL_open, Cond.static yL_open, Cond.codeWith yL_open cL_open 4 (some .int) [(0, 9, 12, 13), (0, 9, 15, 17)], Cond.methodLink RL 33 yX5_open, Cond.instanceMethod yX5_open, Cond.selects RX5 yX5_open yX5_open, Cond.code yX5_open cX5_open 2 (some .int), Cond.fieldLink RX5 108 "DroopBoard$Diesel" "closed" "Z", Cond.methodLink RX5 113 yX1_openBreaker, Cond.instanceMethod yX1_openBreaker, Cond.selects RX1 yX1_openBreaker yX1_openBreaker, Cond.code yX1_openBreaker cX1_openBreaker 1 none]
def wsL_law0_r16 : List Cond := [Cond.methodLink RL 111 yX6_open, Cond.instanceMethod yX6_open, Cond.selects RX6 yX6_open yX6_open, Cond.code yX6_open cX6_open 2 (some .int), Cond.methodLink RL 112 yL_load, Cond.static yL_load, Cond.codeWith yL_load cL_load 5 (some .int) [(0, 10, 13, 13), (0, 10, 17, 15)], Cond.methodLink RL 36 yX5_load, Cond.instanceMethod yX5_load, Cond.selects RX5 yX5_load yX5_load, Cond.code yX5_load cX5_load 4 (some .int), Cond.fieldLink RX5 119 "DroopBoard$Board" "feeders" "[LDroopBoard$Feeder;", Cond.fieldLink RX5 123 "DroopBoard$Feeder" "load" "I", Cond.methodLink RX5 116 yX5_needFeeder, Cond.static yX5_needFeeder, Cond.code yX5_needFeeder cX5_needFeeder 1 none, Cond.methodLink RX5 274 yX5_isFeeder, Cond.static yX5_isFeeder, Cond.code yX5_isFeeder cX5_isFeeder 1 (some .boolean), Cond.methodLink RL 114 yX6_load_, Cond.instanceMethod yX6_load_, Cond.selects RX6 yX6_load_ yX6_load_, Cond.code yX6_load_ cX6_load_ 4 (some .int), Cond.methodLink RX6 140 yX6_isFeeder]
def wsL_law0_r17 : List Cond := [Cond.static yX6_isFeeder, Cond.code yX6_isFeeder cX6_isFeeder 1 (some .boolean), Cond.methodLink RL 115 yL_feeder, Cond.static yL_feeder, Cond.codeWith yL_feeder cL_feeder 5 (some .int) [(0, 10, 13, 13), (0, 10, 17, 15)], Cond.methodLink RL 39 yX5_feeder, Cond.instanceMethod yX5_feeder, Cond.selects RX5 yX5_feeder yX5_feeder, Cond.code yX5_feeder cX5_feeder 4 (some .int), Cond.fieldLink RX5 128 "DroopBoard$Feeder" "on" "Z", Cond.methodLink RX5 131 yX5_oneIf, Cond.methodLink RL 117 yX6_feeder, Cond.instanceMethod yX6_feeder, Cond.selects RX6 yX6_feeder yX6_feeder, Cond.code yX6_feeder cX6_feeder 3 (some .int), Cond.methodLink RX6 143 yX6_feederNow, Cond.instanceMethod yX6_feederNow, Cond.selects RX6 yX6_feederNow yX6_feederNow, Cond.code yX6_feederNow cX6_feederNow 4 (some .int), Cond.methodLink RL 118 yL_pass, Cond.static yL_pass, Cond.codeWith yL_pass cL_pass 4 (some .int) [(0, 9, 12, 15)], Cond.methodLink RL 42 yX5_pass, Cond.instanceMethod yX5_pass]
def wsL_law0_r18 : List Cond := [Cond.selects RX5 yX5_pass yX5_pass, Cond.code yX5_pass cX5_pass 2 (some .int), Cond.methodLink RX5 135 yX0_passTicks, Cond.instanceMethod yX0_passTicks, Cond.selects RX0 yX0_passTicks yX0_passTicks, Cond.code yX0_passTicks cX0_passTicks 4 (some .int), Cond.methodLink RX0 97 yX0_tick, Cond.instanceMethod yX0_tick, Cond.selects RX0 yX0_tick yX0_tick, Cond.code yX0_tick cX0_tick 4 (some .int), Cond.methodLink RX0 100 yX0_lack, Cond.instanceMethod yX0_lack, Cond.selects RX0 yX0_lack yX0_lack, Cond.code yX0_lack cX0_lack 2 (some .int), Cond.methodLink RX0 73 Lib.Math.max.name, Cond.static Lib.Math.max.name, Cond.code Lib.Math.max.name Lib.Math.max.code 2 (some .int), Cond.methodLink RX0 79 yX0_power, Cond.instanceMethod yX0_power, Cond.selects RX0 yX0_power yX0_power, Cond.code yX0_power cX0_power 4 (some .int), Cond.methodLink RX0 70 yX0_lowestClosed, Cond.instanceMethod yX0_lowestClosed, Cond.selects RX0 yX0_lowestClosed yX0_lowestClosed]
def wsL_law0_r19 : List Cond := [Cond.code yX0_lowestClosed cX0_lowestClosed 2 (some .int), Cond.methodLink RX0 103 yX1_tick, Cond.instanceMethod yX1_tick, Cond.selects RX1 yX1_tick yX1_tick, Cond.code yX1_tick cX1_tick 3 none, Cond.methodLink RX1 50 yJ9_floorMod_7cf53, Cond.static yJ9_floorMod_7cf53, Cond.initialized RJ9, Cond.code yJ9_floorMod_7cf53 cJ9_floorMod_7cf53 3 (some .int), Cond.methodLink RX0 106 yX0_shed, Cond.instanceMethod yX0_shed, Cond.selects RX0 yX0_shed yX0_shed, Cond.code yX0_shed cX0_shed 2 none, Cond.fieldLink RX0 112 "DroopBoard$Feeder" "sheds" "I", Cond.methodLink RX0 109 yX0_trip, Cond.instanceMethod yX0_trip, Cond.selects RX0 yX0_trip yX0_trip, Cond.code yX0_trip cX0_trip 4 (some .int), Cond.fieldLink RX0 115 "DroopBoard$Diesel" "overloaded" "I", Cond.fieldLink RX0 118 "DroopBoard$Diesel" "driven" "I", Cond.fieldLink RX0 124 "DroopBoard$Diesel" "trips" "I", Cond.methodLink RX0 121 yX1_openBreaker, Cond.methodLink RL 120 yX6_pass, Cond.instanceMethod yX6_pass]
def wsL_law0_r20 : List Cond := [Cond.selects RX6 yX6_pass yX6_pass, Cond.code yX6_pass cX6_pass 2 (some .int), Cond.methodLink RX6 146 yX6_passNow, Cond.instanceMethod yX6_passNow, Cond.selects RX6 yX6_passNow yX6_passNow, Cond.code yX6_passNow cX6_passNow 4 (some .int), Cond.methodLink RX6 109 yX6_tick, Cond.instanceMethod yX6_tick, Cond.selects RX6 yX6_tick yX6_tick, Cond.code yX6_tick cX6_tick 4 (some .int), Cond.fieldLink RX6 80 "DroopBoardModel" "lack" "I", Cond.methodLink RX6 83 yX6_find, Cond.instanceMethod yX6_find, Cond.selects RX6 yX6_find yX6_find, Cond.code yX6_find cX6_find 5 none, Cond.methodLink RX6 96 yX6_watch, Cond.instanceMethod yX6_watch, Cond.selects RX6 yX6_watch yX6_watch, Cond.code yX6_watch cX6_watch 3 none, Cond.methodLink RX6 99 yX6_turn, Cond.instanceMethod yX6_turn, Cond.selects RX6 yX6_turn yX6_turn, Cond.code yX6_turn cX6_turn 4 none, Cond.methodLink RX6 103 yX6_shed]
def wsL_law0_r21 : List Cond := [Cond.instanceMethod yX6_shed, Cond.selects RX6 yX6_shed yX6_shed, Cond.code yX6_shed cX6_shed 3 none, Cond.methodLink RX6 106 yX6_trip, Cond.instanceMethod yX6_trip, Cond.selects RX6 yX6_trip yX6_trip, Cond.code yX6_trip cX6_trip 3 (some .int), Cond.methodLink RL 121 yL_set, Cond.static yL_set, Cond.codeWith yL_set cL_set 5 (some .int) [(0, 10, 13, 13), (0, 10, 17, 15)], Cond.methodLink RL 45 yX5_set, Cond.instanceMethod yX5_set, Cond.selects RX5 yX5_set yX5_set, Cond.code yX5_set cX5_set 4 (some .int), Cond.fieldLink RX5 141 "DroopBoard" "LEAST_OF_SETTING" "[I", Cond.fieldLink RX5 145 "DroopBoard" "MOST_OF_SETTING" "[I", Cond.fieldLink RX5 148 "DroopBoard$Board" "settings" "[I", Cond.methodLink RX5 138 yX5_needSetting, Cond.static yX5_needSetting, Cond.code yX5_needSetting cX5_needSetting 1 none, Cond.methodLink RL 123 yX6_set, Cond.instanceMethod yX6_set, Cond.selects RX6 yX6_set yX6_set, Cond.code yX6_set cX6_set 4 (some .int)]
def wsL_law0_r22 : List Cond := [Cond.methodLink RX6 149 yX6_maySet, Cond.static yX6_maySet, Cond.code yX6_maySet cX6_maySet 2 (some .boolean), Cond.methodLink RL 124 yL_append, Cond.static yL_append, Cond.codeWith yL_append cL_append 4 (some .int) [(0, 9, 12, 15), (0, 9, 15, 17)], Cond.methodLink RL 48 yX5_append, Cond.instanceMethod yX5_append, Cond.selects RX5 yX5_append yX5_append, Cond.code yX5_append cX5_append 2 (some .int), Cond.fieldLink RX5 159 "DroopBoard$OrderText" "length" "I", Cond.methodLink RX5 151 yX4_isFull, Cond.instanceMethod yX4_isFull, Cond.selects RX4 yX4_isFull yX4_isFull, Cond.code yX4_isFull cX4_isFull 1 (some .boolean), Cond.fieldLink RX4 15 "DroopBoard$OrderText" "length" "I", Cond.methodLink RX5 156 yX4_add, Cond.instanceMethod yX4_add, Cond.selects RX4 yX4_add yX4_add, Cond.code yX4_add cX4_add 2 none, Cond.methodLink RX4 19 yX4_isFull, Cond.methodLink RL 126 yX6_append, Cond.instanceMethod yX6_append, Cond.selects RX6 yX6_append yX6_append]
def wsL_law0_r23 : List Cond := [Cond.code yX6_append cX6_append 2 (some .int), Cond.fieldLink RX6 153 "DroopBoardModel" "length" "I", Cond.methodLink RL 127 yX5_clearBuffer, Cond.instanceMethod yX5_clearBuffer, Cond.selects RX5 yX5_clearBuffer yX5_clearBuffer, Cond.code yX5_clearBuffer cX5_clearBuffer 2 (some .int), Cond.methodLink RL 130 yX6_clearBuffer, Cond.instanceMethod yX6_clearBuffer, Cond.selects RX6 yX6_clearBuffer yX6_clearBuffer, Cond.code yX6_clearBuffer cX6_clearBuffer 2 (some .int), Cond.methodLink RL 131 yX5_firstError, Cond.instanceMethod yX5_firstError, Cond.selects RX5 yX5_firstError yX5_firstError, Cond.code yX5_firstError cX5_firstError 1 (some .int), Cond.methodLink RX5 162 yX4_firstWrong, Cond.instanceMethod yX4_firstWrong, Cond.selects RX4 yX4_firstWrong yX4_firstWrong, Cond.code yX4_firstWrong cX4_firstWrong 3 (some .int), Cond.methodLink RX4 23 yX4_next, Cond.static yX4_next, Cond.code yX4_next cX4_next 2 (some .int), Cond.methodLink RX4 31 yX4_afterLetter, Cond.static yX4_afterLetter, Cond.code yX4_afterLetter cX4_afterLetter 1 (some .int)]
def wsL_law0_r24 : List Cond := [Cond.methodLink RX4 34 yX4_between, Cond.static yX4_between, Cond.code yX4_between cX4_between 4 (some .int), Cond.methodLink RL 134 yX6_firstError, Cond.instanceMethod yX6_firstError, Cond.selects RX6 yX6_firstError yX6_firstError, Cond.code yX6_firstError cX6_firstError 1 (some .int), Cond.fieldLink RX6 156 "DroopBoardModel" "spot" "I", Cond.methodLink RX6 180 yX6_areOrders, Cond.instanceMethod yX6_areOrders, Cond.selects RX6 yX6_areOrders yX6_areOrders, Cond.code yX6_areOrders cX6_areOrders 2 (some .boolean), Cond.fieldLink RX6 165 "DroopBoardModel" "orders" "I", Cond.methodLink RX6 177 yX6_readOrder, Cond.instanceMethod yX6_readOrder, Cond.selects RX6 yX6_readOrder yX6_readOrder, Cond.code yX6_readOrder cX6_readOrder 3 (some .boolean), Cond.methodLink RX6 174 yX6_readRest, Cond.instanceMethod yX6_readRest, Cond.selects RX6 yX6_readRest yX6_readRest, Cond.code yX6_readRest cX6_readRest 2 (some .boolean), Cond.methodLink RX6 168 yX6_readTicks, Cond.instanceMethod yX6_readTicks, Cond.selects RX6 yX6_readTicks yX6_readTicks]
def wsL_law0_r25 : List Cond := [Cond.code yX6_readTicks cX6_readTicks 1 (some .boolean), Cond.methodLink RX6 159 yX6_takes, Cond.instanceMethod yX6_takes, Cond.selects RX6 yX6_takes yX6_takes, Cond.code yX6_takes cX6_takes 4 (some .boolean), Cond.methodLink RX6 162 yX6_digit, Cond.instanceMethod yX6_digit, Cond.selects RX6 yX6_digit yX6_digit, Cond.code yX6_digit cX6_digit 2 (some .int), Cond.methodLink RX6 171 yX6_readSpeed, Cond.instanceMethod yX6_readSpeed, Cond.selects RX6 yX6_readSpeed yX6_readSpeed, Cond.code yX6_readSpeed cX6_readSpeed 3 (some .boolean), Cond.methodLink RL 135 yL_obey, Cond.static yL_obey, Cond.codeWith yL_obey cL_obey 3 (some .int) [(0, 8, 11, 15)], Cond.methodLink RL 51 yX5_obey, Cond.instanceMethod yX5_obey, Cond.selects RX5 yX5_obey yX5_obey, Cond.code yX5_obey cX5_obey 5 (some .int), Cond.methodLink RX5 165 yX4_isComplete, Cond.instanceMethod yX4_isComplete, Cond.selects RX4 yX4_isComplete yX4_isComplete, Cond.code yX4_isComplete cX4_isComplete 3 (some .boolean)]
def wsL_law0_r26 : List Cond := [Cond.methodLink RX5 173 yX4_endOfPart, Cond.instanceMethod yX4_endOfPart, Cond.selects RX4 yX4_endOfPart yX4_endOfPart, Cond.code yX4_endOfPart cX4_endOfPart 3 (some .int), Cond.methodLink RX4 27 yX4_codeAt, Cond.instanceMethod yX4_codeAt, Cond.selects RX4 yX4_codeAt yX4_codeAt, Cond.code yX4_codeAt cX4_codeAt 2 (some .int), Cond.methodLink RX5 176 yX5_carryOut, Cond.instanceMethod yX5_carryOut, Cond.selects RX5 yX5_carryOut yX5_carryOut, Cond.code yX5_carryOut cX5_carryOut 5 (some .boolean), Cond.methodLink RX5 260 yX4_codeAt, Cond.methodLink RX5 283 yX4_number, Cond.instanceMethod yX4_number, Cond.selects RX4 yX4_number yX4_number, Cond.code yX4_number cX4_number 5 (some .int), Cond.methodLink RX5 286 yX5_switchFeeder, Cond.instanceMethod yX5_switchFeeder, Cond.selects RX5 yX5_switchFeeder yX5_switchFeeder, Cond.code yX5_switchFeeder cX5_switchFeeder 3 (some .boolean), Cond.methodLink RX5 290 yX5_commandSet, Cond.instanceMethod yX5_commandSet, Cond.selects RX5 yX5_commandSet yX5_commandSet]
def wsL_law0_r27 : List Cond := [Cond.code yX5_commandSet cX5_commandSet 4 (some .boolean), Cond.methodLink RL 138 yX6_obey, Cond.instanceMethod yX6_obey, Cond.selects RX6 yX6_obey yX6_obey, Cond.code yX6_obey cX6_obey 3 (some .int), Cond.methodLink RX6 183 yX6_canDo, Cond.instanceMethod yX6_canDo, Cond.selects RX6 yX6_canDo yX6_canDo, Cond.code yX6_canDo cX6_canDo 3 (some .boolean), Cond.methodLink RX6 186 yX6_doOrder, Cond.instanceMethod yX6_doOrder, Cond.selects RX6 yX6_doOrder yX6_doOrder, Cond.code yX6_doOrder cX6_doOrder 2 (some .int), Cond.methodLink RL 139 yX5_keep, Cond.instanceMethod yX5_keep, Cond.selects RX5 yX5_keep yX5_keep, Cond.code yX5_keep cX5_keep 1 (some .int), Cond.fieldLink RX5 183 "DroopBoard" "hasSnapshot" "Z", Cond.fieldLink RX5 186 "DroopBoard$Board" "ticks" "I", Cond.methodLink RX5 180 yX0_copyFrom, Cond.methodLink RL 142 yX6_keep, Cond.instanceMethod yX6_keep, Cond.selects RX6 yX6_keep yX6_keep, Cond.code yX6_keep cX6_keep 2 (some .int)]
def wsL_law0_r28 : List Cond := [Cond.fieldLink RX6 189 "DroopBoardModel" "isKept" "Z", Cond.methodLink RL 143 yL_goBack, Cond.static yL_goBack, Cond.codeWith yL_goBack cL_goBack 3 (some .int) [(0, 8, 11, 17)], Cond.methodLink RL 55 yX5_goBack, Cond.instanceMethod yX5_goBack, Cond.selects RX5 yX5_goBack yX5_goBack, Cond.code yX5_goBack cX5_goBack 1 (some .int), Cond.methodLink RL 145 yX6_goBack, Cond.instanceMethod yX6_goBack, Cond.selects RX6 yX6_goBack yX6_goBack, Cond.code yX6_goBack cX6_goBack 2 (some .int), Cond.methodLink RL 146 yL_undo, Cond.static yL_undo, Cond.codeWith yL_undo cL_undo 3 (some .int) [(0, 8, 11, 17)], Cond.methodLink RL 58 yX5_undo, Cond.instanceMethod yX5_undo, Cond.selects RX5 yX5_undo yX5_undo, Cond.code yX5_undo cX5_undo 1 (some .int), Cond.fieldLink RX5 191 "DroopBoard$History" "size" "I", Cond.methodLink RX5 196 yX3_restore, Cond.instanceMethod yX3_restore, Cond.selects RX3 yX3_restore yX3_restore, Cond.code yX3_restore cX3_restore 2 none]
def wsL_law0_r29 : List Cond := [Cond.methodLink RL 148 yX6_undo, Cond.instanceMethod yX6_undo, Cond.selects RX6 yX6_undo yX6_undo, Cond.code yX6_undo cX6_undo 2 (some .int), Cond.methodLink RL 149 yL_diesel, Cond.static yL_diesel, Cond.codeWith yL_diesel cL_diesel 5 (some .int) [(0, 10, 13, 13), (0, 10, 17, 15)], Cond.methodLink RL 61 yX5_diesel, Cond.instanceMethod yX5_diesel, Cond.selects RX5 yX5_diesel yX5_diesel, Cond.code yX5_diesel cX5_diesel 3 (some .int), Cond.methodLink RX5 199 yX5_tellOfSet, Cond.instanceMethod yX5_tellOfSet, Cond.selects RX5 yX5_tellOfSet yX5_tellOfSet, Cond.code yX5_tellOfSet cX5_tellOfSet 4 (some .int), Cond.fieldLink RX5 296 "DroopBoard$Diesel" "phase" "I", Cond.fieldLink RX5 302 "DroopBoard$Diesel" "overloaded" "I", Cond.fieldLink RX5 305 "DroopBoard$Diesel" "driven" "I", Cond.fieldLink RX5 308 "DroopBoard$Diesel" "energy" "I", Cond.fieldLink RX5 309 "DroopBoard$Diesel" "trips" "I", Cond.methodLink RX5 293 yX0_power, Cond.methodLink RX5 299 yX1_lamps, Cond.methodLink RL 151 yX6_diesel, Cond.instanceMethod yX6_diesel]
def wsL_law0_r30 : List Cond := [Cond.selects RX6 yX6_diesel yX6_diesel, Cond.code yX6_diesel cX6_diesel 3 (some .int), Cond.methodLink RX6 196 yX6_ofDiesel, Cond.instanceMethod yX6_ofDiesel, Cond.selects RX6 yX6_ofDiesel yX6_ofDiesel, Cond.code yX6_ofDiesel cX6_ofDiesel 3 (some .int), Cond.methodLink RX6 193 yX6_power, Cond.instanceMethod yX6_power, Cond.selects RX6 yX6_power yX6_power, Cond.code yX6_power cX6_power 2 (some .int), Cond.methodLink RL 152 yL_line, Cond.static yL_line, Cond.codeWith yL_line cL_line 5 (some .int) [(0, 10, 13, 13), (0, 10, 17, 15)], Cond.methodLink RL 64 yX5_line, Cond.instanceMethod yX5_line, Cond.selects RX5 yX5_line yX5_line, Cond.code yX5_line cX5_line 3 (some .int), Cond.methodLink RX5 203 yX5_tellOfFeeder, Cond.instanceMethod yX5_tellOfFeeder, Cond.selects RX5 yX5_tellOfFeeder yX5_tellOfFeeder, Cond.code yX5_tellOfFeeder cX5_tellOfFeeder 3 (some .int), Cond.fieldLink RX5 312 "DroopBoard$Feeder" "sheds" "I", Cond.methodLink RL 154 yX6_line, Cond.instanceMethod yX6_line]
def wsL_law0_r31 : List Cond := [Cond.selects RX6 yX6_line yX6_line, Cond.code yX6_line cX6_line 3 (some .int), Cond.methodLink RL 155 yL_count, Cond.static yL_count, Cond.codeWith yL_count cL_count 4 (some .int) [(0, 9, 12, 15)], Cond.methodLink RL 67 yX5_count, Cond.instanceMethod yX5_count, Cond.selects RX5 yX5_count yX5_count, Cond.code yX5_count cX5_count 2 (some .int), Cond.methodLink RX5 206 yX5_tellCount, Cond.instanceMethod yX5_tellCount, Cond.selects RX5 yX5_tellCount yX5_tellCount, Cond.code yX5_tellCount cX5_tellCount 2 (some .int), Cond.fieldLink RX5 228 "DroopBoard$Board" "energy" "I", Cond.methodLink RX5 315 yX0_frequencyDownwards, Cond.instanceMethod yX0_frequencyDownwards, Cond.selects RX0 yX0_frequencyDownwards yX0_frequencyDownwards, Cond.code yX0_frequencyDownwards cX0_frequencyDownwards 3 (some .int), Cond.methodLink RX5 225 yX0_demand, Cond.methodLink RX5 318 yX0_powers, Cond.instanceMethod yX0_powers, Cond.selects RX0 yX0_powers yX0_powers, Cond.code yX0_powers cX0_powers 4 (some .int), Cond.methodLink RX5 321 yX0_lack]
def wsL_law0_r32 : List Cond := [Cond.methodLink RX5 324 yX0_closedBreakers, Cond.instanceMethod yX0_closedBreakers, Cond.selects RX0 yX0_closedBreakers yX0_closedBreakers, Cond.code yX0_closedBreakers cX0_closedBreakers 3 (some .int), Cond.methodLink RX5 327 yX0_trips, Cond.instanceMethod yX0_trips, Cond.selects RX0 yX0_trips yX0_trips, Cond.code yX0_trips cX0_trips 3 (some .int), Cond.methodLink RX5 329 yX0_sheds, Cond.instanceMethod yX0_sheds, Cond.selects RX0 yX0_sheds yX0_sheds, Cond.code yX0_sheds cX0_sheds 3 (some .int), Cond.methodLink RL 157 yX6_count, Cond.instanceMethod yX6_count, Cond.selects RX6 yX6_count yX6_count, Cond.code yX6_count cX6_count 2 (some .int), Cond.methodLink RX6 205 yX6_number, Cond.instanceMethod yX6_number, Cond.selects RX6 yX6_number yX6_number, Cond.code yX6_number cX6_number 2 (some .int), Cond.methodLink RX6 199 yX6_allPowers, Cond.instanceMethod yX6_allPowers, Cond.selects RX6 yX6_allPowers yX6_allPowers, Cond.code yX6_allPowers cX6_allPowers 1 (some .int)]
def wsL_law0_r33 : List Cond := [Cond.methodLink RX6 202 yX6_lacks, Cond.instanceMethod yX6_lacks, Cond.selects RX6 yX6_lacks yX6_lacks, Cond.code yX6_lacks cX6_lacks 1 (some .int), Cond.methodLink RL 158 yL_setting, Cond.static yL_setting, Cond.codeWith yL_setting cL_setting 4 (some .int) [(0, 9, 12, 13)], Cond.methodLink RL 70 yX5_setting, Cond.instanceMethod yX5_setting, Cond.selects RX5 yX5_setting yX5_setting, Cond.code yX5_setting cX5_setting 2 (some .int), Cond.methodLink RL 160 yX6_setting, Cond.instanceMethod yX6_setting, Cond.selects RX6 yX6_setting yX6_setting, Cond.code yX6_setting cX6_setting 2 (some .int), Cond.methodLink RL 161 yL_ifSpeed, Cond.static yL_ifSpeed, Cond.codeWith yL_ifSpeed cL_ifSpeed 6 (some .int) [(0, 12, 15, 13), (0, 12, 19, 15)], Cond.methodLink RL 73 yX5_ifSpeed, Cond.instanceMethod yX5_ifSpeed, Cond.selects RX5 yX5_ifSpeed yX5_ifSpeed, Cond.code yX5_ifSpeed cX5_ifSpeed 4 (some .int), Cond.methodLink RX5 209 yX5_tellIfSpeed, Cond.instanceMethod yX5_tellIfSpeed]
def wsL_law0_r34 : List Cond := [Cond.selects RX5 yX5_tellIfSpeed yX5_tellIfSpeed, Cond.code yX5_tellIfSpeed cX5_tellIfSpeed 5 (some .int), Cond.methodLink RL 163 yX6_ifSpeed, Cond.instanceMethod yX6_ifSpeed, Cond.selects RX6 yX6_ifSpeed yX6_ifSpeed, Cond.code yX6_ifSpeed cX6_ifSpeed 4 (some .int), Cond.methodLink RX6 208 yX6_withSpeed, Cond.instanceMethod yX6_withSpeed, Cond.selects RX6 yX6_withSpeed yX6_withSpeed, Cond.code yX6_withSpeed cX6_withSpeed 6 (some .int), Cond.methodLink RL 164 yL_closeIn, Cond.static yL_closeIn, Cond.codeWith yL_closeIn cL_closeIn 4 (some .int) [(0, 9, 12, 13)], Cond.methodLink RL 76 yX5_closeIn, Cond.instanceMethod yX5_closeIn, Cond.selects RX5 yX5_closeIn yX5_closeIn, Cond.code yX5_closeIn cX5_closeIn 2 (some .int), Cond.methodLink RX5 213 yX5_ticksUntilClosing, Cond.instanceMethod yX5_ticksUntilClosing, Cond.selects RX5 yX5_ticksUntilClosing yX5_ticksUntilClosing, Cond.code yX5_ticksUntilClosing cX5_ticksUntilClosing 3 (some .int), Cond.methodLink RX5 219 yX0_tick, Cond.methodLink RL 166 yX6_closeIn, Cond.instanceMethod yX6_closeIn]
def wsL_law0_r35 : List Cond := [Cond.selects RX6 yX6_closeIn yX6_closeIn, Cond.code yX6_closeIn cX6_closeIn 2 (some .int), Cond.methodLink RX6 218 yX6_closableIn, Cond.instanceMethod yX6_closableIn, Cond.selects RX6 yX6_closableIn yX6_closableIn, Cond.code yX6_closableIn cX6_closableIn 4 (some .int), Cond.methodLink RX6 212 yX6_putAside, Cond.instanceMethod yX6_putAside, Cond.selects RX6 yX6_putAside yX6_putAside, Cond.code yX6_putAside cX6_putAside 2 none, Cond.methodLink RX6 215 yX6_putBack, Cond.instanceMethod yX6_putBack, Cond.selects RX6 yX6_putBack yX6_putBack, Cond.code yX6_putBack cX6_putBack 2 none, Cond.methodLink RL 167 yL_fairSpeed, Cond.static yL_fairSpeed, Cond.codeWith yL_fairSpeed cL_fairSpeed 4 (some .int) [(0, 9, 12, 13)], Cond.methodLink RL 79 yX5_fairSpeed, Cond.instanceMethod yX5_fairSpeed, Cond.selects RX5 yX5_fairSpeed yX5_fairSpeed, Cond.code yX5_fairSpeed cX5_fairSpeed 2 (some .int), Cond.methodLink RX5 216 yX5_speedForFairShare, Cond.instanceMethod yX5_speedForFairShare, Cond.selects RX5 yX5_speedForFairShare yX5_speedForFairShare]
def wsL_law0_r36 : List Cond := [Cond.code yX5_speedForFairShare cX5_speedForFairShare 8 (some .int), Cond.methodLink RX5 331 Lib.Math.abs.name, Cond.methodLink RX5 222 yX0_ratingsClosed, Cond.instanceMethod yX0_ratingsClosed, Cond.selects RX0 yX0_ratingsClosed yX0_ratingsClosed, Cond.code yX0_ratingsClosed cX0_ratingsClosed 3 (some .int), Cond.fieldLink RX0 131 "DroopBoard$Diesel" "rating" "I", Cond.methodLink RL 169 yX6_fairSpeed, Cond.instanceMethod yX6_fairSpeed, Cond.selects RX6 yX6_fairSpeed yX6_fairSpeed, Cond.code yX6_fairSpeed cX6_fairSpeed 2 (some .int), Cond.methodLink RX6 224 yX6_fairFor, Cond.instanceMethod yX6_fairFor, Cond.selects RX6 yX6_fairFor yX6_fairFor, Cond.code yX6_fairFor cX6_fairFor 8 (some .int), Cond.methodLink RX6 221 yX6_ratings, Cond.instanceMethod yX6_ratings, Cond.selects RX6 yX6_ratings yX6_ratings, Cond.code yX6_ratings cX6_ratings 3 (some .int), Cond.methodLink RL 170 yX5_nextTrip, Cond.instanceMethod yX5_nextTrip, Cond.selects RX5 yX5_nextTrip yX5_nextTrip, Cond.code yX5_nextTrip cX5_nextTrip 2 (some .int), Cond.methodLink RL 173 yX6_nextTrip]
def wsL_law0_r37 : List Cond := [Cond.instanceMethod yX6_nextTrip, Cond.selects RX6 yX6_nextTrip yX6_nextTrip, Cond.code yX6_nextTrip cX6_nextTrip 1 (some .int), Cond.methodLink RX6 227 yX6_tripIn, Cond.instanceMethod yX6_tripIn, Cond.selects RX6 yX6_tripIn yX6_tripIn, Cond.code yX6_tripIn cX6_tripIn 3 (some .int), Cond.methodLink RL 174 yX5_loadShare, Cond.instanceMethod yX5_loadShare, Cond.selects RX5 yX5_loadShare yX5_loadShare, Cond.code yX5_loadShare cX5_loadShare 2 (some .double), Cond.methodLink RL 178 yX6_loadShare, Cond.instanceMethod yX6_loadShare, Cond.selects RX6 yX6_loadShare yX6_loadShare, Cond.code yX6_loadShare cX6_loadShare 1 (some .double), Cond.methodLink RX6 230 yX6_share, Cond.instanceMethod yX6_share, Cond.selects RX6 yX6_share yX6_share, Cond.code yX6_share cX6_share 1 (some .double), Cond.methodLink RL 179 yX5_meanPower, Cond.instanceMethod yX5_meanPower, Cond.selects RX5 yX5_meanPower yX5_meanPower, Cond.code yX5_meanPower cX5_meanPower 1 (some .float), Cond.methodLink RL 183 yX6_meanPower]
def wsL_law0_r38 : List Cond := [Cond.instanceMethod yX6_meanPower, Cond.selects RX6 yX6_meanPower yX6_meanPower, Cond.code yX6_meanPower cX6_meanPower 1 (some .float), Cond.methodLink RX6 234 yX6_mean, Cond.instanceMethod yX6_mean, Cond.selects RX6 yX6_mean yX6_mean, Cond.code yX6_mean cX6_mean 1 (some .float), Cond.methodLink RL 184 yX5_digest, Cond.instanceMethod yX5_digest, Cond.selects RX5 yX5_digest yX5_digest, Cond.code yX5_digest cX5_digest 5 (some .long), Cond.constantLong RX5 231 (3701), Cond.methodLink RX5 233 yX5_mixed, Cond.static yX5_mixed, Cond.code yX5_mixed cX5_mixed 4 (some .long), Cond.constantLong RX5 263 (31), Cond.methodLink RX5 237 yX5_mixedWithSet, Cond.instanceMethod yX5_mixedWithSet, Cond.selects RX5 yX5_mixedWithSet yX5_mixedWithSet, Cond.code yX5_mixedWithSet cX5_mixedWithSet 7 (some .long), Cond.methodLink RX5 241 yX5_nextTrip, Cond.methodLink RX5 244 yX5_loadShare, Cond.methodLink RX5 248 yX5_bitsOfDouble, Cond.static yX5_bitsOfDouble]
def wsL_law0_r39 : List Cond := [Cond.code yX5_bitsOfDouble cX5_bitsOfDouble 6 (some .long), Cond.constantDouble RX5 336 (4611686018427387904), Cond.constantDouble RX5 338 (4841369599423283200), Cond.methodLink RX5 252 yX5_meanPower, Cond.methodLink RX5 256 yX5_bitsOfFloat, Cond.static yX5_bitsOfFloat, Cond.code yX5_bitsOfFloat cX5_bitsOfFloat 4 (some .int), Cond.constantFloat RX5 340 (1258291200), Cond.methodLink RL 188 yX6_digest, Cond.instanceMethod yX6_digest, Cond.selects RX6 yX6_digest yX6_digest, Cond.code yX6_digest cX6_digest 2 (some .long), Cond.constantLong RX6 248 (3701), Cond.fieldLink RX6 240 "DroopBoardModel" "hash" "J", Cond.methodLink RX6 244 yX6_mix, Cond.instanceMethod yX6_mix, Cond.selects RX6 yX6_mix yX6_mix, Cond.code yX6_mix cX6_mix 3 none, Cond.constantLong RX6 238 (31), Cond.methodLink RX6 250 yX6_mixSet, Cond.instanceMethod yX6_mixSet, Cond.selects RX6 yX6_mixSet yX6_mixSet, Cond.code yX6_mixSet cX6_mixSet 3 none, Cond.methodLink RX6 253 yJxe99ae_doubleToLongBits_ccdee]
def wsL_law0_r40 : List Cond := [Cond.static yJxe99ae_doubleToLongBits_ccdee, Cond.initialized RJxe99ae, Cond.code yJxe99ae_doubleToLongBits_ccdee cJxe99ae_doubleToLongBits_ccdee 2 (some .long), Cond.methodLink RJxe99ae 134 ⟨"java/lang/Double", "doubleToRawLongBits", "(D)J"⟩, Cond.native ⟨"java/lang/Double", "doubleToRawLongBits", "(D)J"⟩, Cond.static ⟨"java/lang/Double", "doubleToRawLongBits", "(D)J"⟩, Cond.initialized "java/lang/Double", Cond.constantLong RJxe99ae 137 (9221120237041090560), Cond.methodLink RJxe99ae 122 yJxe99ae_isNaN_b9ae7, Cond.static yJxe99ae_isNaN_b9ae7, Cond.code yJxe99ae_isNaN_b9ae7 cJxe99ae_isNaN_b9ae7 2 (some .boolean), Cond.methodLink RX6 259 yJxf58ca_floatToIntBits_5c35a, Cond.static yJxf58ca_floatToIntBits_5c35a, Cond.initialized RJxf58ca, Cond.code yJxf58ca_floatToIntBits_5c35a cJxf58ca_floatToIntBits_5c35a 1 (some .int), Cond.methodLink RJxf58ca 74 ⟨"java/lang/Float", "floatToRawIntBits", "(F)I"⟩, Cond.native ⟨"java/lang/Float", "floatToRawIntBits", "(F)I"⟩, Cond.static ⟨"java/lang/Float", "floatToRawIntBits", "(F)I"⟩, Cond.initialized "java/lang/Float", Cond.constant RJxf58ca 77 (2143289344), Cond.methodLink RJxf58ca 59 yJxf58ca_isNaN_12338, Cond.static yJxf58ca_isNaN_12338, Cond.code yJxf58ca_isNaN_12338 cJxf58ca_isNaN_12338 1 (some .boolean)]
def wsL_law0 : List Cond := (wsL_law0_r1 ++ (wsL_law0_r2 ++ (wsL_law0_r3 ++ (wsL_law0_r4 ++ (wsL_law0_r5 ++ (wsL_law0_r6 ++ (wsL_law0_r7 ++ (wsL_law0_r8 ++ (wsL_law0_r9 ++ (wsL_law0_r10 ++ (wsL_law0_r11 ++ (wsL_law0_r12 ++ (wsL_law0_r13 ++ (wsL_law0_r14 ++ (wsL_law0_r15 ++ (wsL_law0_r16 ++ (wsL_law0_r17 ++ (wsL_law0_r18 ++ (wsL_law0_r19 ++ (wsL_law0_r20 ++ (wsL_law0_r21 ++ (wsL_law0_r22 ++ (wsL_law0_r23 ++ (wsL_law0_r24 ++ (wsL_law0_r25 ++ (wsL_law0_r26 ++ (wsL_law0_r27 ++ (wsL_law0_r28 ++ (wsL_law0_r29 ++ (wsL_law0_r30 ++ (wsL_law0_r31 ++ (wsL_law0_r32 ++ (wsL_law0_r33 ++ (wsL_law0_r34 ++ (wsL_law0_r35 ++ (wsL_law0_r36 ++ (wsL_law0_r37 ++ (wsL_law0_r38 ++ (wsL_law0_r39 ++ wsL_law0_r40))))))))))))))))))))))))))))))))))))))) ++ wsX50 ++ wsX60 ++ wsX00 ++ wsX30 ++ wsX40 ++ wsX10 ++ wsX20 ++ ([] : List Cond)
def wsL_law : List Cond := wsL_law0 ++ (vx_atS RX5 58 "java/lang/IllegalStateException" ["java/lang/RuntimeException", "java/lang/Exception"]).filter goodWord ++ (vx_atS RX5 273 "java/lang/IndexOutOfBoundsException" ["java/lang/RuntimeException", "java/lang/Exception"]).filter goodWord ++ (vx_atS RX5 172 "java/lang/IllegalArgumentException" ["java/lang/RuntimeException", "java/lang/Exception"]).filter goodWord
abbrev vwCl : List vw_C := [(RX0, TX0, 5), (RX1, TX1, 10), (RX2, TX2, 3), (RX3, TX3, 2), (RX4, TX4, 2), (RX5, TX5, 6), (RX6, TX6, 17)]
end
section
/-! the rows of this proof's own: one cell at a time, heaps by name, calls in one form -/
/-- the array classes of the program: 0 int, 1 Diesel, 2 Feeder, 3 Board, 4 long -/
def tyS (G : Nat → ClassId) : List (ClassId × FieldType) := [(G 0, .int), (G 1, .object RX1), (G 2, .object RX2), (G 3, .object RX0), (G 4, .long)]
/-- the three links between nest mates -/
def NW (U : State) : Prop := va_Nw (.methodLinkNest RX0 127 yX5_oneIf "DroopBoard") U ∧ va_Nw (.methodLinkNest RX0 30 yX2_init "DroopBoard") U ∧ va_Nw (.methodLinkNest RX5 31 yX4_init "DroopBoard") U
theorem NW.warm {s U : State} (hW : s.WarmedH U.vm) (h : NW s) : NW U := ⟨va_Nw.warmM hW h.1, va_Nw.warmM hW h.2.1, va_Nw.warmM hW h.2.2⟩
theorem NW.same {u U : State} (hv : u.vm = U.vm) (h : NW u) : NW U := ⟨va_Nw.same rfl hv h.1, va_Nw.same rfl hv h.2.1, va_Nw.same rfl hv h.2.2⟩
def CX (D : va_G) (G : Nat → ClassId) (H : Heap) : State → Prop := fun U => U.heap = H ∧ va_K D vwCl (tyS G) U ∧ NW U
theorem CX_blind {D : va_G} {G : Nat → ClassId} {H : Heap} {av : List Value} : FrameBlind (va_Pc av (CX D G H)) := fun a U g mk q => ⟨q.1, q.2.1, va_K.moved (u := U) (U := U.calling g mk a) (Vm.Alike.refl U.vm) q.2.2.1, NW.same (u := U) (U := U.calling g mk a) rfl q.2.2.2⟩
theorem dp_hin {C : String} {T : u_T} {N : Nat} {Ts : List Cond} (i : Nat) (h : (Ts.drop i).take N = u_ws C T N) : ∀ w ∈ u_ws C T N, w ∈ Ts := fun w hw => by
  rw [← h] at hw
  exact List.mem_of_mem_drop (List.mem_of_mem_take hw)
theorem nI_dec (a : Nat) : nI (a + 1) + Int32.ofInt (-1) = nI a := pk_m1 a
def QI (A : Nat → Prop) (P : Int32 → Heap → Prop) : Array Value → State → Outcome → State → Prop := va_Qi P (fun (h : Heap) (t : State) => t.heap = h) A
def QL (A : Nat → Prop) (P : Int64 → Heap → Prop) : Array Value → State → Outcome → State → Prop := va_Ql P (fun (h : Heap) (t : State) => t.heap = h) A
def QD (A : Nat → Prop) (P : UInt64 → Heap → Prop) : Array Value → State → Outcome → State → Prop := va_Qd P (fun (h : Heap) (t : State) => t.heap = h) A
def QF (A : Nat → Prop) (P : UInt32 → Heap → Prop) : Array Value → State → Outcome → State → Prop := va_Qf P (fun (h : Heap) (t : State) => t.heap = h) A
def QV (A : Nat → Prop) (P : Heap → Prop) : Array Value → State → Outcome → State → Prop := va_Qv P (fun (h : Heap) (t : State) => t.heap = h) A
theorem nz_n {x : Int32} (h : x = 0 ∨ x = 1) : narrow .boolean (.int x) = .int x := by rcases h with rfl | rfl <;> rfl
theorem nz_f {x : Int32} (h : x = 0 ∨ x = 1) : fits .boolean (.int x) = true := by rcases h with rfl | rfl <;> rfl
def nA : Nat → Prop := fun _ => False
theorem nA_i {A : Nat → Prop} : ∀ q, nA q → A q := fun _ h => h.elim
section DPB
variable {p : Program} {l : Launch} {e : Env} {R : Room} {s : State} {m : MethodId} {args : Array Value} {below : List Frame} {meth : Method} {c : Code} {H : Heap} {locs : List Loc} {cells slots : Nat} {Q : State → Prop}
variable {cc : ByteArray} {pc : Nat} {ls : Array Slot} {rest : List Value} {D : va_G} {cl : List vw_C} {A : Nat → Prop} {a : Nat} {tys : List (ClassId × FieldType)} {ws : va_W} {H0 : Heap}
theorem dp_1 {q : Nat × va_E} (h : va_at D cl q H) : va_P D cl [q] H := by
  intro k q' hk
  match k, hk with
  | 0, hk => cases hk; exact h
  | k + 1, hk => simp at hk
theorem dp_get (hexec : p.tables.exec = Jvm.exec) (hb : c.code = cc) {own C : String} {T : u_T} {N ci index : Nat} {Ts : List Cond} (hts : ∀ w ∈ Ts, w.before args s = true) (hin : ∀ w ∈ u_ws C T N, w ∈ Ts) (hown : s.vm.findClass own = some m.cls) (hK : va_K D cl tys s) {fs : List Value} (ha : va_at D cl (a, .inr (ci, fs)) H) (hc : cl[ci]? = some (C, T, N)) (k : Nat) (hk : k < N) (hlink : (Cond.fieldLink own index (T k).1 (T k).2.1 (T k).2.2.1).before args s = true) {v : Value} (hv : fs[k]? = some v) (hdg : decode cc pc = .ok (.getfield index, 3))
    (kk : W p l e R s m args below meth c H locs cells slots Q (F0 m (pc + 3) ls (v :: rest))) : W p l e R s m args below meth c H locs cells slots Q (F0 m pc ls (.ref a :: rest)) :=
  va_get hexec hb hts hin hown hK (dp_1 ha) 0 rfl hc k hk hlink (fun _ h => h) hv hdg kk
theorem dp_put (hexec : p.tables.exec = Jvm.exec) (hb : c.code = cc) {own C : String} {T : u_T} {N ci index : Nat} {Ts : List Cond} (hts : ∀ w ∈ Ts, w.before args s = true) (hin : ∀ w ∈ u_ws C T N, w ∈ Ts) (ty0 : Nat → FieldType) (hty : ∀ k, k < N → parseFieldDescriptor (T k).2.2.1 = some (ty0 k)) (hnm : ∀ a, a < N → ∀ b, b < N → a ≠ b → (T a).2.1 ≠ (T b).2.1) (hown : s.vm.findClass own = some m.cls) (hK : va_K D cl tys s) {fs : List Value} (ha : va_at D cl (a, .inr (ci, fs)) H) (hAa : A a) (hS0 : va_S A H0 H locs) (hc : cl[ci]? = some (C, T, N)) (k : Nat) (hk : k < N) (hlink : (Cond.fieldLink own index (T k).1 (T k).2.1 (T k).2.2.1).before args s = true) (hfin : (T k).2.2.2 = false) {v : Value} (hn : narrow (ty0 k) v = v) (hfit : fits (ty0 k) v = true) (hl : k < fs.length)
    (hdg : decode cc pc = .ok (.putfield index, 3)) (kk : ∀ (H1 : Heap) (locs1 : List Loc), va_at D cl (a, .inr (ci, fs.set k v)) H1 → H1.size = H.size → (∀ q : Nat, q ≠ a → H1[q]? = H[q]?) → va_S A H0 H1 locs1 → W p l e R s m args below meth c H1 locs1 cells slots Q (F0 m (pc + 3) ls rest)) : W p l e R s m args below meth c H locs cells slots Q (F0 m pc ls (v :: .ref a :: rest)) := by
  have hap := va_apart (own := own) hts hin ty0 hty hnm hK hc
  obtain ⟨r, h1, cell, q1, q2, q3, q4⟩ := ha
  have hr : r = (C, T, N) := Option.some.inj (h1.symm.trans hc)
  subst hr
  obtain ⟨hS, hfc, kC, hkC, hkind⟩ := hK.1 ci _ hc
  obtain ⟨cf, kf, fi, f, hi, hsl⟩ := hS k hk
  have hlay := hts _ (hin _ (u_in_lay hk))
  unfold u_lay at hlay
  rw [if_neg (by rw [hfin]; decide)] at hlay
  have hst := (u_facts hfc hkC (u_lays hts hin hk) hi).1
  have h6 := u_store hfc hkC hkind hlay hi (hty k hk) hn hfit
  refine W.putK hexec hb (f := f) ⟨hown, hlink, ⟨_, _, _, hi⟩, hst⟩ (by rw [q2]; exact h6) q1 q3 (by rw [hsl]; exact k2_hasslot (q4 k hk)) rfl rfl hdg fun H' e1 e2 e3 => ?_
  rw [hsl] at e1 ⊢
  exact kk H' _ ⟨_, hc, t_OB.to (V := updV (vp_V fs) k v) ⟨_, e1, q2, q3, t_set q4 hap hk v⟩ (fun j _ => vp_updV_set hl v j)⟩ e2 e3 (hS0.put e2 e3 hAa)
theorem dp_alen (hexec : p.tables.exec = Jvm.exec) (hb : c.code = cc) (hK : va_K D cl tys s) {cA : ClassId} {x : vp_A} (ha : va_at D cl (a, .inl (cA, x)) H) (t0 : Nat) {ty : FieldType} (ht : tys[t0]? = some (cA, ty)) (hdg : decode cc pc = .ok (.arraylength, 1))
    (kk : W p l e R s m args below meth c H locs cells slots Q (F0 m (pc + 1) ls (.int (nI x.1) :: rest))) : W p l e R s m args below meth c H locs cells slots Q (F0 m pc ls (.ref a :: rest)) :=
  va_alen hexec hb hK (dp_1 ha) 0 t0 rfl ht rfl hdg kk
theorem dp_iald (hexec : p.tables.exec = Jvm.exec) (hb : c.code = cc) (hK : va_K D cl tys s) {cA : ClassId} {n : Nat} {f : Nat → Int32} (ha : va_at D cl (a, .inl (cA, n, .inl f)) H) (t0 : Nat) (ht : tys[t0]? = some (cA, .int)) {i : Int32} (j : Nat) (hi : i = nI j) (hj : j < n) (hn : n < 2 ^ 31) (hdg : decode cc pc = .ok (.iaload, 1))
    (kk : W p l e R s m args below meth c H locs cells slots Q (F0 m (pc + 1) ls (.int (f j) :: rest))) : W p l e R s m args below meth c H locs cells slots Q (F0 m pc ls (.int i :: .ref a :: rest)) := by
  subst hi
  refine va_iald hexec hb hK (dp_1 ha) 0 t0 rfl ht (vp_in_nI hj hn) hdg ?_
  rw [nI_clamp (by omega)]
  exact kk
theorem dp_aald (hexec : p.tables.exec = Jvm.exec) (hb : c.code = cc) (hK : va_K D cl tys s) {cA : ClassId} {n : Nat} {f : Nat → Option Nat} (ha : va_at D cl (a, .inl (cA, n, .inr (.inr (.inr (.inr f))))) H) (t0 : Nat) {C : String} (ht : tys[t0]? = some (cA, .object C)) {i : Int32} (j : Nat) (hi : i = nI j) (hj : j < n) (hn : n < 2 ^ 31) {x : Nat} (hv : f j = some x) (hdg : decode cc pc = .ok (.aaload, 1))
    (kk : W p l e R s m args below meth c H locs cells slots Q (F0 m (pc + 1) ls (.ref x :: rest))) : W p l e R s m args below meth c H locs cells slots Q (F0 m pc ls (.int i :: .ref a :: rest)) := by
  subst hi
  refine va_aldq hexec hb hK (dp_1 ha) 0 t0 rfl ht (vp_in_nI hj hn) hdg ?_
  rw [nI_clamp (by omega), hv]
  exact kk
theorem dp_lald (hexec : p.tables.exec = Jvm.exec) (hb : c.code = cc) (hK : va_K D cl tys s) {cA : ClassId} {n : Nat} {f : Nat → Int64} (ha : va_at D cl (a, .inl (cA, n, .inr (.inl f))) H) (t0 : Nat) (ht : tys[t0]? = some (cA, .long)) {i : Int32} (j : Nat) (hi : i = nI j) (hj : j < n) (hn : n < 2 ^ 31) (hdg : decode cc pc = .ok (.laload, 1))
    (kk : W p l e R s m args below meth c H locs cells slots Q (F0 m (pc + 1) ls (.long (f j) :: rest))) : W p l e R s m args below meth c H locs cells slots Q (F0 m pc ls (.int i :: .ref a :: rest)) := by
  subst hi
  refine va_lald hexec hb hK (dp_1 ha) 0 t0 rfl ht (vp_in_nI hj hn) hdg ?_
  rw [nI_clamp (by omega)]
  exact kk
theorem dp_iast (hexec : p.tables.exec = Jvm.exec) (hb : c.code = cc) (hK : va_K D cl tys s) {cA : ClassId} {n : Nat} {f : Nat → Int32} (ha : va_at D cl (a, .inl (cA, n, .inl f)) H) (hAa : A a) (hS : va_S A H0 H locs) (t0 : Nat) (ht : tys[t0]? = some (cA, .int)) {i x : Int32} (j : Nat) (hi : i = nI j) (hj : j < n) (hn : n < 2 ^ 31) (hdg : decode cc pc = .ok (.iastore, 1))
    (kk : ∀ (H1 : Heap) (locs1 : List Loc), va_at D cl (a, .inl (cA, n, .inl (upd f j x))) H1 → H1.size = H.size → (∀ q : Nat, q ≠ a → H1[q]? = H[q]?) → va_S A H0 H1 locs1 → W p l e R s m args below meth c H1 locs1 cells slots Q (F0 m (pc + 1) ls rest)) : W p l e R s m args below meth c H locs cells slots Q (F0 m pc ls (.int x :: .int i :: .ref a :: rest)) := by
  subst hi
  refine W.iast hexec hb ha ((hK.2 t0 _ ht).1 n (fun j => .int (f j))) (fun q => by cases q) (by show ¬ (nI j < 0 ∨ (arrV _ _ _).slots.size ≤ _); rw [arrV_size]; exact vp_in_nI hj hn) rfl rfl hdg fun H1 e z oq => ?_
  refine kk H1 _ ?_ z oq (hS.put z oq hAa)
  show H1[a]? = some (vp_cell _ _)
  rw [e]
  rw [vp_cell_i, vp_cell_i, arrV_store, nI_clamp (by omega)]
  congr 2
  funext q
  by_cases hq : q = j
  · subst hq
    simp [updV, upd]
  · simp [updV, upd, hq]
theorem dp_last (hexec : p.tables.exec = Jvm.exec) (hb : c.code = cc) (hK : va_K D cl tys s) {cA : ClassId} {n : Nat} {f : Nat → Int64} (ha : va_at D cl (a, .inl (cA, n, .inr (.inl f))) H) (hAa : A a) (hS : va_S A H0 H locs) (t0 : Nat) (ht : tys[t0]? = some (cA, .long)) {i : Int32} {x : Int64} (j : Nat) (hi : i = nI j) (hj : j < n) (hn : n < 2 ^ 31) (hdg : decode cc pc = .ok (.lastore, 1))
    (kk : ∀ (H1 : Heap) (locs1 : List Loc), va_at D cl (a, .inl (cA, n, .inr (.inl (vp_updL f j x)))) H1 → H1.size = H.size → (∀ q : Nat, q ≠ a → H1[q]? = H[q]?) → va_S A H0 H1 locs1 → W p l e R s m args below meth c H1 locs1 cells slots Q (F0 m (pc + 1) ls rest)) : W p l e R s m args below meth c H locs cells slots Q (F0 m pc ls (.long x :: .int i :: .ref a :: rest)) := by
  subst hi
  refine W.last hexec hb ha ((hK.2 t0 _ ht).1 n (fun j => .long (f j))) (fun q => by cases q) (by show ¬ (nI j < 0 ∨ (arrV _ _ _).slots.size ≤ _); rw [arrV_size]; exact vp_in_nI hj hn) rfl rfl hdg fun H1 e z oq => ?_
  refine kk H1 _ ?_ z oq (hS.put z oq hAa)
  show H1[a]? = some (vp_cell _ _)
  rw [e]
  rw [vp_cell_l, vp_cell_l, arrV_store, nI_clamp (by omega)]
  congr 2
  funext q
  by_cases hq : q = j
  · subst hq
    simp [updV, vp_updL]
  · simp [updV, vp_updL, hq]
theorem dp_aast (hexec : p.tables.exec = Jvm.exec) (hb : c.code = cc) (hK : va_K D cl tys s) {cA : ClassId} {n : Nat} {f : Nat → Option Nat} (ha : va_at D cl (a, .inl (cA, n, .inr (.inr (.inr (.inr f))))) H) (hAa : A a) (hS : va_S A H0 H locs) (t0 : Nat) {r : vw_C} (ht : tys[t0]? = some (cA, .object r.1)) {ci v : Nat} {vs : List Value} (hv : va_at D cl (v, .inr (ci, vs)) H) (hc : cl[ci]? = some r) {i : Int32} (j : Nat) (hi : i = nI j) (hj : j < n) (hn : n < 2 ^ 31) (hdg : decode cc pc = .ok (.aastore, 1))
    (kk : ∀ (H1 : Heap) (locs1 : List Loc), va_at D cl (a, .inl (cA, n, .inr (.inr (.inr (.inr (va_up f j (some v))))))) H1 → H1.size = H.size → (∀ q : Nat, q ≠ a → H1[q]? = H[q]?) → va_S A H0 H1 locs1 → W p l e R s m args below meth c H1 locs1 cells slots Q (F0 m (pc + 1) ls rest)) : W p l e R s m args below meth c H locs cells slots Q (F0 m pc ls (.ref v :: .int i :: .ref a :: rest)) := by
  subst hi
  have hin : vp_in (nI j) n := vp_in_nI hj hn
  have hlt : (nI j).toNatClampNeg < n := by rw [nI_clamp (by omega)]; exact hj
  have h0 : ¬ nI j < 0 := fun q => hin (Or.inl q)
  obtain ⟨r', hr', cellV, g1, g2, g3, -⟩ := hv
  have hcls := (hK.1 ci r hc).2
  obtain ⟨kA, comp, k1, k2, k3, -⟩ := (hK.2 t0 _ ht).2
  have hcomp : comp = D.1 ci := Option.some.inj (k3.symm.trans hcls.1)
  subst hcomp
  obtain ⟨kC, hkC, -⟩ := hcls.2
  refine W.aast hexec hb ha (fun q h => by cases h) (fun h => by cases h) k1 k2 rfl hkC ⟨h0, by show _ < (arrV _ _ _).slots.size; rw [arrV_size]; exact hlt⟩ g1 (fun q h => by rw [g3] at h; cases h) (by rw [g2]; exact hkC) (by rw [g2]; exact va_assign hcls) rfl rfl hdg fun H1 e z oq => ?_
  refine kk H1 _ ?_ z oq (hS.put z oq hAa)
  show H1[a]? = some (vp_cell _ _)
  rw [e]
  rw [vp_cell_q, vp_cell_q, arrV_store, nI_clamp (by omega)]
  congr 2
  funext q
  by_cases hq : q = j
  · subst hq
    simp [updV, va_up, va_rf]
  · simp [updV, va_up, hq]
theorem dp_recv (hK : va_K D cl tys s) {ci : Nat} {fs : List Value} (ha : va_at D cl (a, .inr (ci, fs)) H) {q : vw_C} (hc : cl[ci]? = some q) : ∃ cell : Cell, H[a]? = some cell ∧ cell.vm.isStatics = false ∧ s.vm.findClass q.1 = some cell.cls := va_recv hK (dp_1 ha) hc (q0 := 0) rfl
end DPB
def mx (x y : Int32) : Int32 := if x < y then y else x
def mn (x y : Int32) : Int32 := if y < x then y else x
def ab (x : Int32) : Int32 := if 0 ≤ x then x else 0 - x
section DPC
variable {p : Program} {l : Launch} {e : Env} {R : Room} {s : State} {m : MethodId} {args : Array Value} {below : List Frame} {meth : Method} {c : Code} {H : Heap} {locs : List Loc} {cells slots : Nat} {Q : State → Prop}
variable {cc : ByteArray} {pc : Nat} {ls : Array Slot} {D : va_G} {G : Nat → ClassId} {A0 A1 : Nat → Prop} {H0 : Heap}
variable {y : MethodName} {bytes : ByteArray} {maxL nL mc ms n index : Nat} {ret : Option FieldType} {ws : List Cond} {rm : Room} {Ts : List Cond} {own C : String} {b : Addr} {As st0 : List Value}
theorem dp_Vi {P : Int32 → Heap → Prop} (S : CallFix p m c cc nL s args Ts own) (hK : va_K D vwCl (tyS G) s) (hN : NW s) (hM : Met l y ws rm (va_Pc (.ref b :: As) (CX D G H)) (QI A1 P) mc ms A1) (cw : CallW R s args own C index y bytes maxL ret ws rm mc ms n) (hrc : ∃ cellB : Cell, H[b]? = some cellB ∧ cellB.vm.isStatics = false ∧ s.vm.findClass C = some cellB.cls) (hS : va_S A0 H0 H locs) (hA : ∀ q, A1 q → A0 q) (rest : List Value) (hst : st0 = As.reverse ++ .ref b :: rest) (hn : As.length = n) (hsize : ls.size = nL) (hW : (rest.map fun v => v.category).sum ≤ 8) (hdg : decode cc pc = .ok (.invokevirtual index, 3)) (hf : cells + mc ≤ R.cells ∧ slots + ms ≤ R.slots)
    (kk : ∀ (r : Int32) (H1 : Heap) (locs1 : List Loc), P r H1 → H.size ≤ H1.size → (∀ q : Nat, q < H.size → ¬ A1 q → H1[q]? = H[q]?) → va_S A0 H0 H1 locs1 → W p l e R s m args below meth c H1 locs1 (cells + mc) (slots + ms) Q (F0 m (pc + 3) ls (.int r :: rest))) : W p l e R s m args below meth c H locs cells slots Q (F0 m pc ls st0) :=
  va_calli (va_runV S hM cw ⟨CX_blind, hrc, fun U hU hW => ⟨rfl, hU, va_K.moved hW.alike hK, NW.warm hW hN⟩⟩ rfl hn hsize hst (lv_room hW) hdg hf) hS (fun q _ h => hA q h) hA (fun r u t H1 locs1 ht _ hp hB hz hk hS1 => by
    have e : u = H1 := hB.symm.trans ht
    subst e
    exact kk r u locs1 hp hz hk hS1)
theorem dp_Vl {P : Int64 → Heap → Prop} (S : CallFix p m c cc nL s args Ts own) (hK : va_K D vwCl (tyS G) s) (hN : NW s) (hM : Met l y ws rm (va_Pc (.ref b :: As) (CX D G H)) (QL A1 P) mc ms A1) (cw : CallW R s args own C index y bytes maxL ret ws rm mc ms n) (hrc : ∃ cellB : Cell, H[b]? = some cellB ∧ cellB.vm.isStatics = false ∧ s.vm.findClass C = some cellB.cls) (hS : va_S A0 H0 H locs) (hA : ∀ q, A1 q → A0 q) (rest : List Value) (hst : st0 = As.reverse ++ .ref b :: rest) (hn : As.length = n) (hsize : ls.size = nL) (hW : (rest.map fun v => v.category).sum ≤ 8) (hdg : decode cc pc = .ok (.invokevirtual index, 3)) (hf : cells + mc ≤ R.cells ∧ slots + ms ≤ R.slots)
    (kk : ∀ (r : Int64) (H1 : Heap) (locs1 : List Loc), P r H1 → H.size ≤ H1.size → (∀ q : Nat, q < H.size → ¬ A1 q → H1[q]? = H[q]?) → va_S A0 H0 H1 locs1 → W p l e R s m args below meth c H1 locs1 (cells + mc) (slots + ms) Q (F0 m (pc + 3) ls (.long r :: rest))) : W p l e R s m args below meth c H locs cells slots Q (F0 m pc ls st0) :=
  va_calll (va_runV S hM cw ⟨CX_blind, hrc, fun U hU hW => ⟨rfl, hU, va_K.moved hW.alike hK, NW.warm hW hN⟩⟩ rfl hn hsize hst (lv_room hW) hdg hf) hS (fun q _ h => hA q h) hA (fun r u t H1 locs1 ht _ hp hB hz hk hS1 => by
    have e : u = H1 := hB.symm.trans ht
    subst e
    exact kk r u locs1 hp hz hk hS1)
theorem dp_Vd {P : UInt64 → Heap → Prop} (S : CallFix p m c cc nL s args Ts own) (hK : va_K D vwCl (tyS G) s) (hN : NW s) (hM : Met l y ws rm (va_Pc (.ref b :: As) (CX D G H)) (QD A1 P) mc ms A1) (cw : CallW R s args own C index y bytes maxL ret ws rm mc ms n) (hrc : ∃ cellB : Cell, H[b]? = some cellB ∧ cellB.vm.isStatics = false ∧ s.vm.findClass C = some cellB.cls) (hS : va_S A0 H0 H locs) (hA : ∀ q, A1 q → A0 q) (rest : List Value) (hst : st0 = As.reverse ++ .ref b :: rest) (hn : As.length = n) (hsize : ls.size = nL) (hW : (rest.map fun v => v.category).sum ≤ 8) (hdg : decode cc pc = .ok (.invokevirtual index, 3)) (hf : cells + mc ≤ R.cells ∧ slots + ms ≤ R.slots)
    (kk : ∀ (r : UInt64) (H1 : Heap) (locs1 : List Loc), P r H1 → H.size ≤ H1.size → (∀ q : Nat, q < H.size → ¬ A1 q → H1[q]? = H[q]?) → va_S A0 H0 H1 locs1 → W p l e R s m args below meth c H1 locs1 (cells + mc) (slots + ms) Q (F0 m (pc + 3) ls (.double r :: rest))) : W p l e R s m args below meth c H locs cells slots Q (F0 m pc ls st0) :=
  va_calld (va_runV S hM cw ⟨CX_blind, hrc, fun U hU hW => ⟨rfl, hU, va_K.moved hW.alike hK, NW.warm hW hN⟩⟩ rfl hn hsize hst (lv_room hW) hdg hf) hS (fun q _ h => hA q h) hA (fun r u t H1 locs1 ht _ hp hB hz hk hS1 => by
    have e : u = H1 := hB.symm.trans ht
    subst e
    exact kk r u locs1 hp hz hk hS1)
theorem dp_Vf {P : UInt32 → Heap → Prop} (S : CallFix p m c cc nL s args Ts own) (hK : va_K D vwCl (tyS G) s) (hN : NW s) (hM : Met l y ws rm (va_Pc (.ref b :: As) (CX D G H)) (QF A1 P) mc ms A1) (cw : CallW R s args own C index y bytes maxL ret ws rm mc ms n) (hrc : ∃ cellB : Cell, H[b]? = some cellB ∧ cellB.vm.isStatics = false ∧ s.vm.findClass C = some cellB.cls) (hS : va_S A0 H0 H locs) (hA : ∀ q, A1 q → A0 q) (rest : List Value) (hst : st0 = As.reverse ++ .ref b :: rest) (hn : As.length = n) (hsize : ls.size = nL) (hW : (rest.map fun v => v.category).sum ≤ 8) (hdg : decode cc pc = .ok (.invokevirtual index, 3)) (hf : cells + mc ≤ R.cells ∧ slots + ms ≤ R.slots)
    (kk : ∀ (r : UInt32) (H1 : Heap) (locs1 : List Loc), P r H1 → H.size ≤ H1.size → (∀ q : Nat, q < H.size → ¬ A1 q → H1[q]? = H[q]?) → va_S A0 H0 H1 locs1 → W p l e R s m args below meth c H1 locs1 (cells + mc) (slots + ms) Q (F0 m (pc + 3) ls (.float r :: rest))) : W p l e R s m args below meth c H locs cells slots Q (F0 m pc ls st0) :=
  va_callf (va_runV S hM cw ⟨CX_blind, hrc, fun U hU hW => ⟨rfl, hU, va_K.moved hW.alike hK, NW.warm hW hN⟩⟩ rfl hn hsize hst (lv_room hW) hdg hf) hS (fun q _ h => hA q h) hA (fun r u t H1 locs1 ht _ hp hB hz hk hS1 => by
    have e : u = H1 := hB.symm.trans ht
    subst e
    exact kk r u locs1 hp hz hk hS1)
theorem dp_Vv {P : Heap → Prop} (S : CallFix p m c cc nL s args Ts own) (hK : va_K D vwCl (tyS G) s) (hN : NW s) (hM : Met l y ws rm (va_Pc (.ref b :: As) (CX D G H)) (QV A1 P) mc ms A1) (cw : CallW R s args own C index y bytes maxL ret ws rm mc ms n) (hrc : ∃ cellB : Cell, H[b]? = some cellB ∧ cellB.vm.isStatics = false ∧ s.vm.findClass C = some cellB.cls) (hS : va_S A0 H0 H locs) (hA : ∀ q, A1 q → A0 q) (rest : List Value) (hst : st0 = As.reverse ++ .ref b :: rest) (hn : As.length = n) (hsize : ls.size = nL) (hW : (rest.map fun v => v.category).sum ≤ 8) (hdg : decode cc pc = .ok (.invokevirtual index, 3)) (hf : cells + mc ≤ R.cells ∧ slots + ms ≤ R.slots)
    (kk : ∀ (H1 : Heap) (locs1 : List Loc), P H1 → H.size ≤ H1.size → (∀ q : Nat, q < H.size → ¬ A1 q → H1[q]? = H[q]?) → va_S A0 H0 H1 locs1 → W p l e R s m args below meth c H1 locs1 (cells + mc) (slots + ms) Q (F0 m (pc + 3) ls rest)) : W p l e R s m args below meth c H locs cells slots Q (F0 m pc ls st0) :=
  va_callv (va_runV S hM cw ⟨CX_blind, hrc, fun U hU hW => ⟨rfl, hU, va_K.moved hW.alike hK, NW.warm hW hN⟩⟩ rfl hn hsize hst (lv_room hW) hdg hf) hS (fun q _ h => hA q h) hA (fun u t H1 locs1 ht _ hp hB hz hk hS1 => by
    have e : u = H1 := hB.symm.trans ht
    subst e
    exact kk u locs1 hp hz hk hS1)
theorem dp_Si {P : Int32 → Heap → Prop} (S : CallFix p m c cc nL s args Ts own) (hK : va_K D vwCl (tyS G) s) (hN : NW s) (hM : Met l y ws rm (va_Pc As (CX D G H)) (QI A1 P) mc ms A1) (cw : CallB R s args own index y bytes maxL ret ws rm mc ms n ∧ (Cond.static y).before args s = true) (hS : va_S A0 H0 H locs) (hA : ∀ q, A1 q → A0 q) (rest : List Value) (hst : st0 = As.reverse ++ rest) (hn : As.length = n) (hsize : ls.size = nL) (hW : (rest.map fun v => v.category).sum ≤ 8) (hdg : decode cc pc = .ok (.invokestatic index, 3)) (hf : cells + mc ≤ R.cells ∧ slots + ms ≤ R.slots)
    (kk : ∀ (r : Int32) (H1 : Heap) (locs1 : List Loc), P r H1 → H.size ≤ H1.size → (∀ q : Nat, q < H.size → ¬ A1 q → H1[q]? = H[q]?) → va_S A0 H0 H1 locs1 → W p l e R s m args below meth c H1 locs1 (cells + mc) (slots + ms) Q (F0 m (pc + 3) ls (.int r :: rest))) : W p l e R s m args below meth c H locs cells slots Q (F0 m pc ls st0) :=
  va_calli (va_runS S hM cw ⟨CX_blind, fun U hU hW => ⟨rfl, hU, va_K.moved hW.alike hK, NW.warm hW hN⟩⟩ rfl hn hsize hst (lv_room hW) hdg hf) hS (fun q _ h => hA q h) hA (fun r u t H1 locs1 ht _ hp hB hz hk hS1 => by
    have e : u = H1 := hB.symm.trans ht
    subst e
    exact kk r u locs1 hp hz hk hS1)
theorem dp_Sl {P : Int64 → Heap → Prop} (S : CallFix p m c cc nL s args Ts own) (hK : va_K D vwCl (tyS G) s) (hN : NW s) (hM : Met l y ws rm (va_Pc As (CX D G H)) (QL A1 P) mc ms A1) (cw : CallB R s args own index y bytes maxL ret ws rm mc ms n ∧ (Cond.static y).before args s = true) (hS : va_S A0 H0 H locs) (hA : ∀ q, A1 q → A0 q) (rest : List Value) (hst : st0 = As.reverse ++ rest) (hn : As.length = n) (hsize : ls.size = nL) (hW : (rest.map fun v => v.category).sum ≤ 8) (hdg : decode cc pc = .ok (.invokestatic index, 3)) (hf : cells + mc ≤ R.cells ∧ slots + ms ≤ R.slots)
    (kk : ∀ (r : Int64) (H1 : Heap) (locs1 : List Loc), P r H1 → H.size ≤ H1.size → (∀ q : Nat, q < H.size → ¬ A1 q → H1[q]? = H[q]?) → va_S A0 H0 H1 locs1 → W p l e R s m args below meth c H1 locs1 (cells + mc) (slots + ms) Q (F0 m (pc + 3) ls (.long r :: rest))) : W p l e R s m args below meth c H locs cells slots Q (F0 m pc ls st0) :=
  va_calll (va_runS S hM cw ⟨CX_blind, fun U hU hW => ⟨rfl, hU, va_K.moved hW.alike hK, NW.warm hW hN⟩⟩ rfl hn hsize hst (lv_room hW) hdg hf) hS (fun q _ h => hA q h) hA (fun r u t H1 locs1 ht _ hp hB hz hk hS1 => by
    have e : u = H1 := hB.symm.trans ht
    subst e
    exact kk r u locs1 hp hz hk hS1)
theorem dp_SNi {host : String} {P : Int32 → Heap → Prop} (S : CallFix p m c cc nL s args Ts own) (hK : va_K D vwCl (tyS G) s) (hN : NW s) (hM : Met l y ws rm (va_Pc As (CX D G H)) (QI A1 P) mc ms A1) (cw : va_CN R s args own index y host bytes maxL ret ws rm mc ms n ∧ (Cond.static y).before args s = true ∧ True) (hS : va_S A0 H0 H locs) (hA : ∀ q, A1 q → A0 q) (rest : List Value) (hst : st0 = As.reverse ++ rest) (hn : As.length = n) (hsize : ls.size = nL) (hW : (rest.map fun v => v.category).sum ≤ 8) (hdg : decode cc pc = .ok (.invokestatic index, 3)) (hf : cells + mc ≤ R.cells ∧ slots + ms ≤ R.slots)
    (kk : ∀ (r : Int32) (H1 : Heap) (locs1 : List Loc), P r H1 → H.size ≤ H1.size → (∀ q : Nat, q < H.size → ¬ A1 q → H1[q]? = H[q]?) → va_S A0 H0 H1 locs1 → W p l e R s m args below meth c H1 locs1 (cells + mc) (slots + ms) Q (F0 m (pc + 3) ls (.int r :: rest))) : W p l e R s m args below meth c H locs cells slots Q (F0 m pc ls st0) :=
  va_calli (va_runSN S hM cw ⟨CX_blind, fun U hU hW => ⟨rfl, hU, va_K.moved hW.alike hK, NW.warm hW hN⟩⟩ rfl hn hsize hst (lv_room hW) hdg hf) hS (fun q _ h => hA q h) hA (fun r u t H1 locs1 ht _ hp hB hz hk hS1 => by
    have e : u = H1 := hB.symm.trans ht
    subst e
    exact kk r u locs1 hp hz hk hS1)
theorem dp_max (hx : p.tables.exec = Jvm.exec) (hb : c.code = cc) (hml : c.maxLocals = ls.size) {rest : List Value} {own : String} {index : Nat} (hown : s.vm.findClass own = some m.cls) (hlink : (Cond.methodLink own index Lib.Math.max.name).before args s = true) (hstat : (Cond.static Lib.Math.max.name).before args s = true) (hini : (Cond.initialized "java/lang/Math").before args s = true) (hcode : (Cond.code Lib.Math.max.name Lib.Math.max.code 2 (some .int)).before args s = true)
    (hframes : 1 ≤ R.frames) (hlocals : (rest.map fun v => v.category).sum + 13 ≤ R.locals) (hc : cells ≤ R.cells) (hs : slots ≤ R.slots) {x y : Int32} (hdg : decode cc pc = .ok (.invokestatic index, 3))
    (kk : W p l e R s m args below meth c H locs cells slots Q (F0 m (pc + 3) ls (.int (mx x y) :: rest))) : W p l e R s m args below meth c H locs cells slots Q (F0 m pc ls (.int y :: .int x :: rest)) :=
  va_mmax hx hb hml hown hlink hstat hini hcode hframes hlocals hc hs hdg kk
theorem dp_min (hx : p.tables.exec = Jvm.exec) (hb : c.code = cc) (hml : c.maxLocals = ls.size) {rest : List Value} {own : String} {index : Nat} (hown : s.vm.findClass own = some m.cls) (hlink : (Cond.methodLink own index Lib.Math.min.name).before args s = true) (hstat : (Cond.static Lib.Math.min.name).before args s = true) (hini : (Cond.initialized "java/lang/Math").before args s = true) (hcode : (Cond.code Lib.Math.min.name Lib.Math.min.code 2 (some .int)).before args s = true)
    (hframes : 1 ≤ R.frames) (hlocals : (rest.map fun v => v.category).sum + 13 ≤ R.locals) (hc : cells ≤ R.cells) (hs : slots ≤ R.slots) {x y : Int32} (hdg : decode cc pc = .ok (.invokestatic index, 3))
    (kk : W p l e R s m args below meth c H locs cells slots Q (F0 m (pc + 3) ls (.int (mn x y) :: rest))) : W p l e R s m args below meth c H locs cells slots Q (F0 m pc ls (.int y :: .int x :: rest)) :=
  va_mmin hx hb hml hown hlink hstat hini hcode hframes hlocals hc hs hdg kk
theorem dp_abs (hx : p.tables.exec = Jvm.exec) (hb : c.code = cc) (hml : c.maxLocals = ls.size) {rest : List Value} {own : String} {index : Nat} (hown : s.vm.findClass own = some m.cls) (hlink : (Cond.methodLink own index Lib.Math.abs.name).before args s = true) (hstat : (Cond.static Lib.Math.abs.name).before args s = true) (hini : (Cond.initialized "java/lang/Math").before args s = true) (hcode : (Cond.code Lib.Math.abs.name Lib.Math.abs.code 1 (some .int)).before args s = true)
    (hframes : 1 ≤ R.frames) (hlocals : (rest.map fun v => v.category).sum + 13 ≤ R.locals) (hc : cells ≤ R.cells) (hs : slots ≤ R.slots) {x : Int32} (hdg : decode cc pc = .ok (.invokestatic index, 3))
    (kk : W p l e R s m args below meth c H locs cells slots Q (F0 m (pc + 3) ls (.int (ab x) :: rest))) : W p l e R s m args below meth c H locs cells slots Q (F0 m pc ls (.int x :: rest)) :=
  va_mabs hx hb hml hown hlink hstat hini hcode hframes hlocals hc hs hdg kk
end DPC
end
section
/-! the state in words: a row R of 50 numbers (settings 0 to 3, ticks 4, trips 5, sheds 6, energy 7, ten for each set from 8, three for each feeder from 38); a Board holds such a row, spread over its cells b 0 to b 10; the reference holds it in one array -/
def dF (R : Nat → Int32) (i : Nat) : List Value := [.int (R (8 + 10 * i)), .int (R (9 + 10 * i)), .int (R (10 + 10 * i)), .int (R (11 + 10 * i)), .int (R (12 + 10 * i)), .int (R (13 + 10 * i)), .int (R (14 + 10 * i)), .int (R (15 + 10 * i)), .int (R (16 + 10 * i)), .int (R (17 + 10 * i))]
def fF (R : Nat → Int32) (i : Nat) : List Value := [.int (R (38 + 3 * i)), .int (R (39 + 3 * i)), .int (R (40 + 3 * i))]
def rfs (f : Nat → Option Nat) : (Nat → Int32) ⊕ (Nat → Int64) ⊕ (Nat → UInt32) ⊕ (Nat → UInt64) ⊕ (Nat → Option Nat) := .inr (.inr (.inr (.inr f)))
def bF (b : Nat → Nat) (R : Nat → Int32) : List Value := [.ref (b 1), .ref (b 2), .ref (b 3), .int (R 4), .int (R 7)]
def BD (D : va_G) (G : Nat → ClassId) (b : Nat → Nat) (R : Nat → Int32) (H : Heap) : Prop :=
  va_at D vwCl (b 0, .inr (0, bF b R)) H ∧
  va_at D vwCl (b 1, .inl (G 1, 3, rfs (fun i => some (b (4 + i))))) H ∧
  va_at D vwCl (b 2, .inl (G 2, 4, rfs (fun i => some (b (7 + i))))) H ∧
  va_at D vwCl (b 3, .inl (G 0, 4, .inl R)) H ∧
  (∀ i, i < 3 → va_at D vwCl (b (4 + i), .inr (1, dF R i)) H) ∧ ∀ i, i < 4 → va_at D vwCl (b (7 + i), .inr (2, fF R i)) H
theorem BD.lt {D : va_G} {G : Nat → ClassId} {b : Nat → Nat} {R : Nat → Int32} {H : Heap} (h : BD D G b R H) : ∀ k, k < 11 → b k < H.size := by
  intro k hk
  obtain ⟨h0, h1, h2, h3, h4, h5⟩ := h
  match k, hk with
  | 0, _ => exact h0.lt
  | 1, _ => exact h1.lt
  | 2, _ => exact h2.lt
  | 3, _ => exact h3.lt
  | 4, _ => exact (h4 0 (by omega)).lt
  | 5, _ => exact (h4 1 (by omega)).lt
  | 6, _ => exact (h4 2 (by omega)).lt
  | 7, _ => exact (h5 0 (by omega)).lt
  | 8, _ => exact (h5 1 (by omega)).lt
  | 9, _ => exact (h5 2 (by omega)).lt
  | 10, _ => exact (h5 3 (by omega)).lt
theorem BD.kept {D : va_G} {G : Nat → ClassId} {b : Nat → Nat} {R : Nat → Int32} {H H1 : Heap} (h : BD D G b R H) (hq : ∀ k, k < 11 → H1[b k]? = H[b k]?) : BD D G b R H1 := by
  obtain ⟨h0, h1, h2, h3, h4, h5⟩ := h
  exact ⟨h0.kept (hq 0 (by omega)), h1.kept (hq 1 (by omega)), h2.kept (hq 2 (by omega)), h3.kept (hq 3 (by omega)), fun i hi => (h4 i hi).kept (hq (4 + i) (by omega)), fun i hi => (h5 i hi).kept (hq (7 + i) (by omega))⟩
theorem arrV_cong {cA : ClassId} {n : Nat} {f g : Nat → Value} (h : ∀ j, j < n → f j = g j) : arrV cA n f = arrV cA n g := by
  unfold arrV
  have e : (fun j : Fin n => f j.val) = fun j : Fin n => g j.val := funext fun j => h j.val j.isLt
  rw [e]
/-- an array's cell depends on its places alone -/
theorem at_congr {D : va_G} {cl : List vw_C} {a n : Nat} {cA : ClassId} {f g : Nat → Int32} {H : Heap} (h : va_at D cl (a, .inl (cA, n, .inl f)) H) (hq : ∀ j, j < n → f j = g j) : va_at D cl (a, .inl (cA, n, .inl g)) H := by
  have h' : H[a]? = some (vp_cell cA (n, .inl f)) := h
  show H[a]? = some (vp_cell cA (n, .inl g))
  rw [h', vp_cell_i, vp_cell_i]
  rw [arrV_cong (fun j hj => by rw [hq j hj])]
theorem BD.congr {D : va_G} {G : Nat → ClassId} {b : Nat → Nat} {R R' : Nat → Int32} {H : Heap} (h : BD D G b R H) (hq : ∀ k, k < 50 → k ≠ 5 → k ≠ 6 → R k = R' k) : BD D G b R' H := by
  obtain ⟨h0, h1, h2, h3, h4, h5⟩ := h
  refine ⟨?_, h1, h2, at_congr h3 (fun j hj => hq j (by omega) (by omega) (by omega)), fun i hi => ?_, fun i hi => ?_⟩
  · have e : bF b R = bF b R' := by simp only [bF]; rw [hq 4 (by omega) (by omega) (by omega), hq 7 (by omega) (by omega) (by omega)]
    rw [← e]; exact h0
  · have e : dF R i = dF R' i := by
      simp only [dF]
      rw [hq (8 + 10 * i) (by omega) (by omega) (by omega), hq (9 + 10 * i) (by omega) (by omega) (by omega), hq (10 + 10 * i) (by omega) (by omega) (by omega), hq (11 + 10 * i) (by omega) (by omega) (by omega), hq (12 + 10 * i) (by omega) (by omega) (by omega), hq (13 + 10 * i) (by omega) (by omega) (by omega), hq (14 + 10 * i) (by omega) (by omega) (by omega), hq (15 + 10 * i) (by omega) (by omega) (by omega), hq (16 + 10 * i) (by omega) (by omega) (by omega), hq (17 + 10 * i) (by omega) (by omega) (by omega)]
    rw [← e]; exact h4 i hi
  · have e : fF R i = fF R' i := by
      simp only [fF]
      rw [hq (38 + 3 * i) (by omega) (by omega) (by omega), hq (39 + 3 * i) (by omega) (by omega) (by omega), hq (40 + 3 * i) (by omega) (by omega) (by omega)]
    rw [← e]; exact h5 i hi
/-- the addresses of a group of n are apart -/
def inj (n : Nat) (b : Nat → Nat) : Prop := ∀ i j, i < n → j < n → b i = b j → i = j
/-- b's cells -/
def bA (n : Nat) (b : Nat → Nat) : Nat → Prop := fun q => ∃ k, k < n ∧ q = b k
/-- behind a change of set i alone -/
theorem BD.setD {D : va_G} {G : Nat → ClassId} {b : Nat → Nat} {R R' : Nat → Int32} {H H1 : Heap} (h : BD D G b R H) (hn : inj 11 b) {i : Nat} (hi : i < 3) (ha : va_at D vwCl (b (4 + i), .inr (1, dF R' i)) H1) (hk : ∀ q : Nat, q < H.size → q ≠ b (4 + i) → H1[q]? = H[q]?) (hR : ∀ k, k < 50 → (k < 8 + 10 * i ∨ 18 + 10 * i ≤ k) → R' k = R k) : BD D G b R' H1 := by
  have hlt := h.lt
  have kp : ∀ k, k < 11 → k ≠ 4 + i → H1[b k]? = H[b k]? := fun k hk1 hne => hk _ (hlt k hk1) (fun e => hne (hn k (4 + i) hk1 (by omega) e))
  obtain ⟨h0, h1, h2, h3, h4, h5⟩ := h
  refine ⟨?_, h1.kept (kp 1 (by omega) (by omega)), h2.kept (kp 2 (by omega) (by omega)), at_congr (h3.kept (kp 3 (by omega) (by omega))) (fun j hj => (hR j (by omega) (by omega)).symm), fun j hj => ?_, fun j hj => ?_⟩
  · have e : bF b R' = bF b R := by simp only [bF]; rw [hR 4 (by omega) (by omega), hR 7 (by omega) (by omega)]
    rw [e]; exact h0.kept (kp 0 (by omega) (by omega))
  · by_cases hji : j = i
    · subst hji; exact ha
    · have e : dF R' j = dF R j := by
        simp only [dF]
        rw [hR (8 + 10 * j) (by omega) (by omega), hR (9 + 10 * j) (by omega) (by omega), hR (10 + 10 * j) (by omega) (by omega), hR (11 + 10 * j) (by omega) (by omega), hR (12 + 10 * j) (by omega) (by omega), hR (13 + 10 * j) (by omega) (by omega), hR (14 + 10 * j) (by omega) (by omega), hR (15 + 10 * j) (by omega) (by omega), hR (16 + 10 * j) (by omega) (by omega), hR (17 + 10 * j) (by omega) (by omega)]
      rw [e]; exact (h4 j hj).kept (kp (4 + j) (by omega) (by omega))
  · have e : fF R' j = fF R j := by
      simp only [fF]
      rw [hR (38 + 3 * j) (by omega) (by omega), hR (39 + 3 * j) (by omega) (by omega), hR (40 + 3 * j) (by omega) (by omega)]
    rw [e]; exact (h5 j hj).kept (kp (7 + j) (by omega) (by omega))
/-- behind a change of feeder i alone -/
theorem BD.setF {D : va_G} {G : Nat → ClassId} {b : Nat → Nat} {R R' : Nat → Int32} {H H1 : Heap} (h : BD D G b R H) (hn : inj 11 b) {i : Nat} (hi : i < 4) (ha : va_at D vwCl (b (7 + i), .inr (2, fF R' i)) H1) (hk : ∀ q : Nat, q < H.size → q ≠ b (7 + i) → H1[q]? = H[q]?) (hR : ∀ k, k < 50 → k ≠ 6 → (k < 38 + 3 * i ∨ 41 + 3 * i ≤ k) → R' k = R k) : BD D G b R' H1 := by
  have hlt := h.lt
  have kp : ∀ k, k < 11 → k ≠ 7 + i → H1[b k]? = H[b k]? := fun k hk1 hne => hk _ (hlt k hk1) (fun e => hne (hn k (7 + i) hk1 (by omega) e))
  obtain ⟨h0, h1, h2, h3, h4, h5⟩ := h
  refine ⟨?_, h1.kept (kp 1 (by omega) (by omega)), h2.kept (kp 2 (by omega) (by omega)), at_congr (h3.kept (kp 3 (by omega) (by omega))) (fun j hj => (hR j (by omega) (by omega) (by omega)).symm), fun j hj => ?_, fun j hj => ?_⟩
  · have e : bF b R' = bF b R := by simp only [bF]; rw [hR 4 (by omega) (by omega) (by omega), hR 7 (by omega) (by omega) (by omega)]
    rw [e]; exact h0.kept (kp 0 (by omega) (by omega))
  · have e : dF R' j = dF R j := by
      simp only [dF]
      rw [hR (8 + 10 * j) (by omega) (by omega) (by omega), hR (9 + 10 * j) (by omega) (by omega) (by omega), hR (10 + 10 * j) (by omega) (by omega) (by omega), hR (11 + 10 * j) (by omega) (by omega) (by omega), hR (12 + 10 * j) (by omega) (by omega) (by omega), hR (13 + 10 * j) (by omega) (by omega) (by omega), hR (14 + 10 * j) (by omega) (by omega) (by omega), hR (15 + 10 * j) (by omega) (by omega) (by omega), hR (16 + 10 * j) (by omega) (by omega) (by omega), hR (17 + 10 * j) (by omega) (by omega) (by omega)]
    rw [e]; exact (h4 j hj).kept (kp (4 + j) (by omega) (by omega))
  · by_cases hji : j = i
    · subst hji; exact ha
    · have e : fF R' j = fF R j := by
        simp only [fF]
        rw [hR (38 + 3 * j) (by omega) (by omega) (by omega), hR (39 + 3 * j) (by omega) (by omega) (by omega), hR (40 + 3 * j) (by omega) (by omega) (by omega)]
      rw [e]; exact (h5 j hj).kept (kp (7 + j) (by omega) (by omega))
/-- behind a change of ticks and energy -/
theorem BD.setO {D : va_G} {G : Nat → ClassId} {b : Nat → Nat} {R R' : Nat → Int32} {H H1 : Heap} (h : BD D G b R H) (hn : inj 11 b) (ha : va_at D vwCl (b 0, .inr (0, bF b R')) H1) (hk : ∀ q : Nat, q < H.size → q ≠ b 0 → H1[q]? = H[q]?) (hR : ∀ k, k < 50 → k ≠ 4 → k ≠ 7 → R' k = R k) : BD D G b R' H1 := by
  have hlt := h.lt
  have kp : ∀ k, k < 11 → k ≠ 0 → H1[b k]? = H[b k]? := fun k hk1 hne => hk _ (hlt k hk1) (fun e => hne (hn k 0 hk1 (by omega) e))
  obtain ⟨h0, h1, h2, h3, h4, h5⟩ := h
  have h9 : BD D G b (fun k => if k = 4 then R' 4 else if k = 7 then R' 7 else R k) H1 := by
    refine ⟨ha, h1.kept (kp 1 (by omega) (by omega)), h2.kept (kp 2 (by omega) (by omega)), at_congr (h3.kept (kp 3 (by omega) (by omega))) (fun j hj => ?_), fun j hj => ?_, fun j hj => ?_⟩
    · rw [if_neg (by omega), if_neg (by omega)]
    · have e : dF (fun k => if k = 4 then R' 4 else if k = 7 then R' 7 else R k) j = dF R j := by
        simp only [dF]
        repeat rw [if_neg (by omega), if_neg (by omega)]
      rw [e]; exact (h4 j hj).kept (kp (4 + j) (by omega) (by omega))
    · have e : fF (fun k => if k = 4 then R' 4 else if k = 7 then R' 7 else R k) j = fF R j := by
        simp only [fF]
        repeat rw [if_neg (by omega), if_neg (by omega)]
      rw [e]; exact (h5 j hj).kept (kp (7 + j) (by omega) (by omega))
  refine h9.congr (fun k hk _ _ => ?_)
  by_cases e4 : k = 4
  · subst e4; simp
  · by_cases e7 : k = 7
    · subst e7; simp
    · simp [e4, e7, hR k hk e4 e7]
/-- behind a change of the settings -/
theorem BD.setS {D : va_G} {G : Nat → ClassId} {b : Nat → Nat} {R R' : Nat → Int32} {H H1 : Heap} (h : BD D G b R H) (hn : inj 11 b) (ha : va_at D vwCl (b 3, .inl (G 0, 4, .inl R')) H1) (hk : ∀ q : Nat, q < H.size → q ≠ b 3 → H1[q]? = H[q]?) (hR : ∀ k, k < 50 → 4 ≤ k → R' k = R k) : BD D G b R' H1 := by
  have hlt := h.lt
  have kp : ∀ k, k < 11 → k ≠ 3 → H1[b k]? = H[b k]? := fun k hk1 hne => hk _ (hlt k hk1) (fun e => hne (hn k 3 hk1 (by omega) e))
  obtain ⟨h0, h1, h2, h3, h4, h5⟩ := h
  refine ⟨?_, h1.kept (kp 1 (by omega) (by omega)), h2.kept (kp 2 (by omega) (by omega)), ha, fun j hj => ?_, fun j hj => ?_⟩
  · have e : bF b R' = bF b R := by simp only [bF]; rw [hR 4 (by omega) (by omega), hR 7 (by omega) (by omega)]
    rw [e]; exact h0.kept (kp 0 (by omega) (by omega))
  · have e : dF R' j = dF R j := by
      simp only [dF]
      rw [hR (8 + 10 * j) (by omega) (by omega), hR (9 + 10 * j) (by omega) (by omega), hR (10 + 10 * j) (by omega) (by omega), hR (11 + 10 * j) (by omega) (by omega), hR (12 + 10 * j) (by omega) (by omega), hR (13 + 10 * j) (by omega) (by omega), hR (14 + 10 * j) (by omega) (by omega), hR (15 + 10 * j) (by omega) (by omega), hR (16 + 10 * j) (by omega) (by omega), hR (17 + 10 * j) (by omega) (by omega)]
    rw [e]; exact (h4 j hj).kept (kp (4 + j) (by omega) (by omega))
  · have e : fF R' j = fF R j := by
      simp only [fF]
      rw [hR (38 + 3 * j) (by omega) (by omega), hR (39 + 3 * j) (by omega) (by omega), hR (40 + 3 * j) (by omega) (by omega)]
    rw [e]; exact (h5 j hj).kept (kp (7 + j) (by omega) (by omega))
/-! what the document's words are, of a row -/
def gv (R : Nat → Int32) (i : Nat) (f : Int32) : Int32 := if R (12 + 10 * i) = 0 then 0 else (R (10 + 10 * i) - f) * R (8 + 10 * i) / R (9 + 10 * i)
def alv (R : Nat → Int32) : Int32 := if R 12 = 0 ∧ R 22 = 0 ∧ R 32 = 0 then 0 else 1
def lsum (R : Nat → Int32) : Nat → Int32
  | 0 => 0
  | k + 1 => if R (39 + 3 * k) = 0 then lsum R k else lsum R k + R (38 + 3 * k)
def ld (R : Nat → Int32) : Int32 := if alv R = 0 then 0 else lsum R 4
def tsum (R : Nat → Int32) (f : Int32) : Nat → Int32
  | 0 => 0
  | k + 1 => tsum R f k + gv R k f
def tot (R : Nat → Int32) (f : Int32) : Int32 := tsum R f 3
def fok (R : Nat → Int32) (k : Nat) : Bool := decide (ld R ≤ tot R (nI (4700 + k)))
/-- the greatest k up to n of which ok says yes, else 0 -/
def fsb (ok : Nat → Bool) : Nat → Nat
  | 0 => 0
  | n + 1 => if ok (n + 1) = true then n + 1 else fsb ok n
def fq (R : Nat → Int32) : Int32 := if alv R = 0 then 0 else nI (4700 + fsb (fok R) 600)
def lw (R : Nat → Int32) : Int32 := if ¬ R 12 = 0 then 0 else if ¬ R 22 = 0 then 1 else if ¬ R 32 = 0 then 2 else (-1)
def pw (R : Nat → Int32) (i : Nat) (f : Int32) : Int32 := if nI i = lw R then gv R i f - mx (tot R f - ld R) 0 else gv R i f
def psum (R : Nat → Int32) (f : Int32) : Nat → Int32
  | 0 => 0
  | k + 1 => psum R f k + pw R k f
def lk (R : Nat → Int32) (f : Int32) : Int32 := mx (ld R - tot R f) 0
def lam (x : Int32) : Int32 := mn x (1000 - x)
def rsn (R : Nat → Int32) (i : Nat) : Int32 := if R (11 + 10 * i) = 0 then 1 else if ¬ R (12 + 10 * i) = 0 then 2 else if alv R = 0 then 0 else if ab (R (10 + 10 * i) - fq R) ≤ R 2 then (if lam (R (13 + 10 * i)) ≤ R 3 then 0 else 4) else 3
/-- how many of the sets say yes at place w -/
def osum (R : Nat → Int32) (w : Nat) : Nat → Int32
  | 0 => 0
  | k + 1 => osum R w k + (if R (w + 10 * k) = 0 then 0 else 1)
def rat (R : Nat → Int32) : Nat → Int32
  | 0 => 0
  | k + 1 => if R (12 + 10 * k) = 0 then rat R k else rat R k + R (8 + 10 * k)
def wsum (R : Nat → Int32) (w d : Nat) : Nat → Int32
  | 0 => 0
  | k + 1 => wsum R w d k + R (w + d * k)
def rst (R : Nat → Int32) (i : Nat) : Nat → Int32 := upd (upd (upd R (13 + 10 * i) 0) (14 + 10 * i) 0) (15 + 10 * i) 0
def fmd (x y : Int32) : Int32 := if 0 ≤ x ^^^ y then x - x / y * y else if x - x / y * y = 0 then x - x / y * y else x - x / y * y + y
/-- a set's part of a tick, but for the trip -/
def dtk (R : Nat → Int32) (i : Nat) (w f : Int32) : Nat → Int32 :=
  if R (12 + 10 * i) = 0 then (if R (11 + 10 * i) = 0 then upd R (16 + 10 * i) (R (16 + 10 * i) + w) else if f ≤ 0 then upd R (16 + 10 * i) (R (16 + 10 * i) + w) else upd (upd R (16 + 10 * i) (R (16 + 10 * i) + w)) (13 + 10 * i) (fmd (R (13 + 10 * i) + R (10 + 10 * i) - f) 1000))
  else upd (upd (upd R (16 + 10 * i) (R (16 + 10 * i) + w)) (14 + 10 * i) (if w ≤ R (8 + 10 * i) + R (8 + 10 * i) / 10 then 0 else R (14 + 10 * i) + 1)) (15 + 10 * i) (if -(R (8 + 10 * i) / 20) ≤ w then 0 else R (15 + 10 * i) + 1)
end
section
theorem dX1_init_0 : decode cX1_init 0 = .ok (.aload_n 0, 1) := by decide +kernel
theorem dX1_init_1 : decode cX1_init 1 = .ok (.invokespecial 1, 3) := by decide +kernel
theorem dX1_init_4 : decode cX1_init 4 = .ok (.aload_n 0, 1) := by decide +kernel
theorem dX1_init_5 : decode cX1_init 5 = .ok (.sipush 200, 3) := by decide +kernel
theorem dX1_init_8 : decode cX1_init 8 = .ok (.putfield 7, 3) := by decide +kernel
theorem dX1_init_11 : decode cX1_init 11 = .ok (.aload_n 0, 1) := by decide +kernel
theorem dX1_init_12 : decode cX1_init 12 = .ok (.sipush 5000, 3) := by decide +kernel
theorem dX1_init_15 : decode cX1_init 15 = .ok (.putfield 13, 3) := by decide +kernel
theorem dX1_init_18 : decode cX1_init 18 = .ok (.aload_n 0, 1) := by decide +kernel
theorem dX1_init_19 : decode cX1_init 19 = .ok (.iload_n 1, 1) := by decide +kernel
theorem dX1_init_20 : decode cX1_init 20 = .ok (.putfield 16, 3) := by decide +kernel
theorem dX1_init_23 : decode cX1_init 23 = .ok (.return_, 1) := by decide +kernel
theorem dX1_copyFrom_0 : decode cX1_copyFrom 0 = .ok (.aload_n 0, 1) := by decide +kernel
theorem dX1_copyFrom_1 : decode cX1_copyFrom 1 = .ok (.aload_n 1, 1) := by decide +kernel
theorem dX1_copyFrom_2 : decode cX1_copyFrom 2 = .ok (.getfield 16, 3) := by decide +kernel
theorem dX1_copyFrom_5 : decode cX1_copyFrom 5 = .ok (.putfield 16, 3) := by decide +kernel
theorem dX1_copyFrom_8 : decode cX1_copyFrom 8 = .ok (.aload_n 0, 1) := by decide +kernel
theorem dX1_copyFrom_9 : decode cX1_copyFrom 9 = .ok (.aload_n 1, 1) := by decide +kernel
theorem dX1_copyFrom_10 : decode cX1_copyFrom 10 = .ok (.getfield 7, 3) := by decide +kernel
theorem dX1_copyFrom_13 : decode cX1_copyFrom 13 = .ok (.putfield 7, 3) := by decide +kernel
theorem dX1_copyFrom_16 : decode cX1_copyFrom 16 = .ok (.aload_n 0, 1) := by decide +kernel
theorem dX1_copyFrom_17 : decode cX1_copyFrom 17 = .ok (.aload_n 1, 1) := by decide +kernel
theorem dX1_copyFrom_18 : decode cX1_copyFrom 18 = .ok (.getfield 13, 3) := by decide +kernel
theorem dX1_copyFrom_21 : decode cX1_copyFrom 21 = .ok (.putfield 13, 3) := by decide +kernel
theorem dX1_copyFrom_24 : decode cX1_copyFrom 24 = .ok (.aload_n 0, 1) := by decide +kernel
theorem dX1_copyFrom_25 : decode cX1_copyFrom 25 = .ok (.aload_n 1, 1) := by decide +kernel
theorem dX1_copyFrom_26 : decode cX1_copyFrom 26 = .ok (.getfield 19, 3) := by decide +kernel
theorem dX1_copyFrom_29 : decode cX1_copyFrom 29 = .ok (.putfield 19, 3) := by decide +kernel
theorem dX1_copyFrom_32 : decode cX1_copyFrom 32 = .ok (.aload_n 0, 1) := by decide +kernel
theorem dX1_copyFrom_33 : decode cX1_copyFrom 33 = .ok (.aload_n 1, 1) := by decide +kernel
theorem dX1_copyFrom_34 : decode cX1_copyFrom 34 = .ok (.getfield 23, 3) := by decide +kernel
theorem dX1_copyFrom_37 : decode cX1_copyFrom 37 = .ok (.putfield 23, 3) := by decide +kernel
theorem dX1_copyFrom_40 : decode cX1_copyFrom 40 = .ok (.aload_n 0, 1) := by decide +kernel
theorem dX1_copyFrom_41 : decode cX1_copyFrom 41 = .ok (.aload_n 1, 1) := by decide +kernel
theorem dX1_copyFrom_42 : decode cX1_copyFrom 42 = .ok (.getfield 26, 3) := by decide +kernel
theorem dX1_copyFrom_45 : decode cX1_copyFrom 45 = .ok (.putfield 26, 3) := by decide +kernel
theorem dX1_copyFrom_48 : decode cX1_copyFrom 48 = .ok (.aload_n 0, 1) := by decide +kernel
theorem dX1_copyFrom_49 : decode cX1_copyFrom 49 = .ok (.aload_n 1, 1) := by decide +kernel
theorem dX1_copyFrom_50 : decode cX1_copyFrom 50 = .ok (.getfield 29, 3) := by decide +kernel
theorem dX1_copyFrom_53 : decode cX1_copyFrom 53 = .ok (.putfield 29, 3) := by decide +kernel
theorem dX1_copyFrom_56 : decode cX1_copyFrom 56 = .ok (.aload_n 0, 1) := by decide +kernel
theorem dX1_copyFrom_57 : decode cX1_copyFrom 57 = .ok (.aload_n 1, 1) := by decide +kernel
theorem dX1_copyFrom_58 : decode cX1_copyFrom 58 = .ok (.getfield 32, 3) := by decide +kernel
theorem dX1_copyFrom_61 : decode cX1_copyFrom 61 = .ok (.putfield 32, 3) := by decide +kernel
theorem dX1_copyFrom_64 : decode cX1_copyFrom 64 = .ok (.aload_n 0, 1) := by decide +kernel
theorem dX1_copyFrom_65 : decode cX1_copyFrom 65 = .ok (.aload_n 1, 1) := by decide +kernel
theorem dX1_copyFrom_66 : decode cX1_copyFrom 66 = .ok (.getfield 35, 3) := by decide +kernel
theorem dX1_copyFrom_69 : decode cX1_copyFrom 69 = .ok (.putfield 35, 3) := by decide +kernel
theorem dX1_copyFrom_72 : decode cX1_copyFrom 72 = .ok (.aload_n 0, 1) := by decide +kernel
theorem dX1_copyFrom_73 : decode cX1_copyFrom 73 = .ok (.aload_n 1, 1) := by decide +kernel
theorem dX1_copyFrom_74 : decode cX1_copyFrom 74 = .ok (.getfield 38, 3) := by decide +kernel
theorem dX1_copyFrom_77 : decode cX1_copyFrom 77 = .ok (.putfield 38, 3) := by decide +kernel
theorem dX1_copyFrom_80 : decode cX1_copyFrom 80 = .ok (.return_, 1) := by decide +kernel
theorem dX1_canStart_0 : decode cX1_canStart 0 = .ok (.aload_n 0, 1) := by decide +kernel
theorem dX1_canStart_1 : decode cX1_canStart 1 = .ok (.getfield 19, 3) := by decide +kernel
theorem dX1_canStart_4 : decode cX1_canStart 4 = .ok (.ifCond .ne 7, 3) := by decide +kernel
theorem dX1_canStart_7 : decode cX1_canStart 7 = .ok (.iconst 1, 1) := by decide +kernel
theorem dX1_canStart_8 : decode cX1_canStart 8 = .ok (.goto 4, 3) := by decide +kernel
theorem dX1_canStart_11 : decode cX1_canStart 11 = .ok (.iconst 0, 1) := by decide +kernel
theorem dX1_canStart_12 : decode cX1_canStart 12 = .ok (.ireturn, 1) := by decide +kernel
theorem dX1_canStop_0 : decode cX1_canStop 0 = .ok (.aload_n 0, 1) := by decide +kernel
theorem dX1_canStop_1 : decode cX1_canStop 1 = .ok (.getfield 19, 3) := by decide +kernel
theorem dX1_canStop_4 : decode cX1_canStop 4 = .ok (.ifCond .eq 14, 3) := by decide +kernel
theorem dX1_canStop_7 : decode cX1_canStop 7 = .ok (.aload_n 0, 1) := by decide +kernel
theorem dX1_canStop_8 : decode cX1_canStop 8 = .ok (.getfield 23, 3) := by decide +kernel
theorem dX1_canStop_11 : decode cX1_canStop 11 = .ok (.ifCond .ne 7, 3) := by decide +kernel
theorem dX1_canStop_14 : decode cX1_canStop 14 = .ok (.iconst 1, 1) := by decide +kernel
theorem dX1_canStop_15 : decode cX1_canStop 15 = .ok (.goto 4, 3) := by decide +kernel
theorem dX1_canStop_18 : decode cX1_canStop 18 = .ok (.iconst 0, 1) := by decide +kernel
theorem dX1_canStop_19 : decode cX1_canStop 19 = .ok (.ireturn, 1) := by decide +kernel
set_option maxRecDepth 100000 in
theorem ggX1_start_X1_beginAnew : GoodIn wsX1_start wsX1_beginAnew := goodIn_r _ [6, 7, 8, 9, 10, 11, 12, 13, 14, 15, 16, 17, 18, 19] rfl (by decide +kernel)
set_option maxRecDepth 100000 in
theorem gX1_start_X1_beginAnew : GoodIn wsX1_start (wsV RX1 41 RX1 yX1_beginAnew wsX1_beginAnew) := goodIn_app (goodIn_r _ [2, 3, 4, 5] rfl (by decide +kernel)) ggX1_start_X1_beginAnew
theorem dX1_start_0 : decode cX1_start 0 = .ok (.aload_n 0, 1) := by decide +kernel
theorem dX1_start_1 : decode cX1_start 1 = .ok (.iconst 1, 1) := by decide +kernel
theorem dX1_start_2 : decode cX1_start 2 = .ok (.putfield 19, 3) := by decide +kernel
theorem dX1_start_5 : decode cX1_start 5 = .ok (.aload_n 0, 1) := by decide +kernel
theorem dX1_start_6 : decode cX1_start 6 = .ok (.invokevirtual 41, 3) := by decide +kernel
theorem dX1_start_9 : decode cX1_start 9 = .ok (.return_, 1) := by decide +kernel
set_option maxRecDepth 100000 in
theorem ggX1_stop_X1_beginAnew : GoodIn wsX1_stop wsX1_beginAnew := goodIn_r _ [6, 7, 8, 9, 10, 11, 12, 13, 14, 15, 16, 17, 18, 19] rfl (by decide +kernel)
set_option maxRecDepth 100000 in
theorem gX1_stop_X1_beginAnew : GoodIn wsX1_stop (wsV RX1 41 RX1 yX1_beginAnew wsX1_beginAnew) := goodIn_app (goodIn_r _ [2, 3, 4, 5] rfl (by decide +kernel)) ggX1_stop_X1_beginAnew
theorem dX1_stop_0 : decode cX1_stop 0 = .ok (.aload_n 0, 1) := by decide +kernel
theorem dX1_stop_1 : decode cX1_stop 1 = .ok (.iconst 0, 1) := by decide +kernel
theorem dX1_stop_2 : decode cX1_stop 2 = .ok (.putfield 19, 3) := by decide +kernel
theorem dX1_stop_5 : decode cX1_stop 5 = .ok (.aload_n 0, 1) := by decide +kernel
theorem dX1_stop_6 : decode cX1_stop 6 = .ok (.invokevirtual 41, 3) := by decide +kernel
theorem dX1_stop_9 : decode cX1_stop 9 = .ok (.return_, 1) := by decide +kernel
set_option maxRecDepth 100000 in
theorem ggX1_closeBreaker_X1_beginAnew : GoodIn wsX1_closeBreaker wsX1_beginAnew := goodIn_r _ [6, 7, 8, 9, 10, 11, 12, 13, 14, 15, 16, 17, 18, 19] rfl (by decide +kernel)
set_option maxRecDepth 100000 in
theorem gX1_closeBreaker_X1_beginAnew : GoodIn wsX1_closeBreaker (wsV RX1 41 RX1 yX1_beginAnew wsX1_beginAnew) := goodIn_app (goodIn_r _ [2, 3, 4, 5] rfl (by decide +kernel)) ggX1_closeBreaker_X1_beginAnew
theorem dX1_closeBreaker_0 : decode cX1_closeBreaker 0 = .ok (.aload_n 0, 1) := by decide +kernel
theorem dX1_closeBreaker_1 : decode cX1_closeBreaker 1 = .ok (.iconst 1, 1) := by decide +kernel
theorem dX1_closeBreaker_2 : decode cX1_closeBreaker 2 = .ok (.putfield 23, 3) := by decide +kernel
theorem dX1_closeBreaker_5 : decode cX1_closeBreaker 5 = .ok (.aload_n 0, 1) := by decide +kernel
theorem dX1_closeBreaker_6 : decode cX1_closeBreaker 6 = .ok (.invokevirtual 41, 3) := by decide +kernel
theorem dX1_closeBreaker_9 : decode cX1_closeBreaker 9 = .ok (.return_, 1) := by decide +kernel
set_option maxRecDepth 100000 in
theorem ggX1_openBreaker_X1_beginAnew : GoodIn wsX1_openBreaker wsX1_beginAnew := goodIn_r _ [6, 7, 8, 9, 10, 11, 12, 13, 14, 15, 16, 17, 18, 19] rfl (by decide +kernel)
set_option maxRecDepth 100000 in
theorem gX1_openBreaker_X1_beginAnew : GoodIn wsX1_openBreaker (wsV RX1 41 RX1 yX1_beginAnew wsX1_beginAnew) := goodIn_app (goodIn_r _ [2, 3, 4, 5] rfl (by decide +kernel)) ggX1_openBreaker_X1_beginAnew
theorem dX1_openBreaker_0 : decode cX1_openBreaker 0 = .ok (.aload_n 0, 1) := by decide +kernel
theorem dX1_openBreaker_1 : decode cX1_openBreaker 1 = .ok (.iconst 0, 1) := by decide +kernel
theorem dX1_openBreaker_2 : decode cX1_openBreaker 2 = .ok (.putfield 23, 3) := by decide +kernel
theorem dX1_openBreaker_5 : decode cX1_openBreaker 5 = .ok (.aload_n 0, 1) := by decide +kernel
theorem dX1_openBreaker_6 : decode cX1_openBreaker 6 = .ok (.invokevirtual 41, 3) := by decide +kernel
theorem dX1_openBreaker_9 : decode cX1_openBreaker 9 = .ok (.return_, 1) := by decide +kernel
theorem dX1_beginAnew_0 : decode cX1_beginAnew 0 = .ok (.aload_n 0, 1) := by decide +kernel
theorem dX1_beginAnew_1 : decode cX1_beginAnew 1 = .ok (.iconst 0, 1) := by decide +kernel
theorem dX1_beginAnew_2 : decode cX1_beginAnew 2 = .ok (.putfield 26, 3) := by decide +kernel
theorem dX1_beginAnew_5 : decode cX1_beginAnew 5 = .ok (.aload_n 0, 1) := by decide +kernel
theorem dX1_beginAnew_6 : decode cX1_beginAnew 6 = .ok (.iconst 0, 1) := by decide +kernel
theorem dX1_beginAnew_7 : decode cX1_beginAnew 7 = .ok (.putfield 29, 3) := by decide +kernel
theorem dX1_beginAnew_10 : decode cX1_beginAnew 10 = .ok (.aload_n 0, 1) := by decide +kernel
theorem dX1_beginAnew_11 : decode cX1_beginAnew 11 = .ok (.iconst 0, 1) := by decide +kernel
theorem dX1_beginAnew_12 : decode cX1_beginAnew 12 = .ok (.putfield 32, 3) := by decide +kernel
theorem dX1_beginAnew_15 : decode cX1_beginAnew 15 = .ok (.return_, 1) := by decide +kernel
theorem dX1_lamps_0 : decode cX1_lamps 0 = .ok (.aload_n 0, 1) := by decide +kernel
theorem dX1_lamps_1 : decode cX1_lamps 1 = .ok (.getfield 26, 3) := by decide +kernel
theorem dX1_lamps_4 : decode cX1_lamps 4 = .ok (.sipush 1000, 3) := by decide +kernel
theorem dX1_lamps_7 : decode cX1_lamps 7 = .ok (.aload_n 0, 1) := by decide +kernel
theorem dX1_lamps_8 : decode cX1_lamps 8 = .ok (.getfield 26, 3) := by decide +kernel
theorem dX1_lamps_11 : decode cX1_lamps 11 = .ok (.isub, 1) := by decide +kernel
theorem dX1_lamps_12 : decode cX1_lamps 12 = .ok (.invokestatic 44, 3) := by decide +kernel
theorem dX1_lamps_15 : decode cX1_lamps 15 = .ok (.ireturn, 1) := by decide +kernel
theorem dX1_gives_0 : decode cX1_gives 0 = .ok (.aload_n 0, 1) := by decide +kernel
theorem dX1_gives_1 : decode cX1_gives 1 = .ok (.getfield 23, 3) := by decide +kernel
theorem dX1_gives_4 : decode cX1_gives 4 = .ok (.ifCond .eq 10, 3) := by decide +kernel
theorem dX1_gives_7 : decode cX1_gives 7 = .ok (.aload_n 0, 1) := by decide +kernel
theorem dX1_gives_8 : decode cX1_gives 8 = .ok (.getfield 7, 3) := by decide +kernel
theorem dX1_gives_11 : decode cX1_gives 11 = .ok (.ifCond .ne 5, 3) := by decide +kernel
theorem dX1_gives_14 : decode cX1_gives 14 = .ok (.iconst 0, 1) := by decide +kernel
theorem dX1_gives_15 : decode cX1_gives 15 = .ok (.ireturn, 1) := by decide +kernel
theorem dX1_gives_16 : decode cX1_gives 16 = .ok (.aload_n 0, 1) := by decide +kernel
theorem dX1_gives_17 : decode cX1_gives 17 = .ok (.getfield 13, 3) := by decide +kernel
theorem dX1_gives_20 : decode cX1_gives 20 = .ok (.iload_n 1, 1) := by decide +kernel
theorem dX1_gives_21 : decode cX1_gives 21 = .ok (.isub, 1) := by decide +kernel
theorem dX1_gives_22 : decode cX1_gives 22 = .ok (.aload_n 0, 1) := by decide +kernel
theorem dX1_gives_23 : decode cX1_gives 23 = .ok (.getfield 16, 3) := by decide +kernel
theorem dX1_gives_26 : decode cX1_gives 26 = .ok (.imul, 1) := by decide +kernel
theorem dX1_gives_27 : decode cX1_gives 27 = .ok (.aload_n 0, 1) := by decide +kernel
theorem dX1_gives_28 : decode cX1_gives 28 = .ok (.getfield 7, 3) := by decide +kernel
theorem dX1_gives_31 : decode cX1_gives 31 = .ok (.idiv, 1) := by decide +kernel
theorem dX1_gives_32 : decode cX1_gives 32 = .ok (.ireturn, 1) := by decide +kernel
set_option maxRecDepth 100000 in
theorem ggX1_tick_J9_floorMod_7cf53 : GoodIn wsX1_tick wsJ9_floorMod_7cf53 := goodIn_r _ [12] rfl (by decide +kernel)
set_option maxRecDepth 100000 in
theorem gX1_tick_J9_floorMod_7cf53 : GoodIn wsX1_tick (va_wsS RX1 50 yJ9_floorMod_7cf53 wsJ9_floorMod_7cf53) := goodIn_app (goodIn_r _ [9, 10, 11] rfl (by decide +kernel)) ggX1_tick_J9_floorMod_7cf53
theorem dX1_tick_0 : decode cX1_tick 0 = .ok (.aload_n 0, 1) := by decide +kernel
theorem dX1_tick_1 : decode cX1_tick 1 = .ok (.dup, 1) := by decide +kernel
theorem dX1_tick_2 : decode cX1_tick 2 = .ok (.getfield 35, 3) := by decide +kernel
theorem dX1_tick_5 : decode cX1_tick 5 = .ok (.iload_n 1, 1) := by decide +kernel
theorem dX1_tick_6 : decode cX1_tick 6 = .ok (.iadd, 1) := by decide +kernel
theorem dX1_tick_7 : decode cX1_tick 7 = .ok (.putfield 35, 3) := by decide +kernel
theorem dX1_tick_10 : decode cX1_tick 10 = .ok (.aload_n 0, 1) := by decide +kernel
theorem dX1_tick_11 : decode cX1_tick 11 = .ok (.getfield 23, 3) := by decide +kernel
theorem dX1_tick_14 : decode cX1_tick 14 = .ok (.ifCond .eq 62, 3) := by decide +kernel
theorem dX1_tick_17 : decode cX1_tick 17 = .ok (.aload_n 0, 1) := by decide +kernel
theorem dX1_tick_18 : decode cX1_tick 18 = .ok (.iload_n 1, 1) := by decide +kernel
theorem dX1_tick_19 : decode cX1_tick 19 = .ok (.aload_n 0, 1) := by decide +kernel
theorem dX1_tick_20 : decode cX1_tick 20 = .ok (.getfield 16, 3) := by decide +kernel
theorem dX1_tick_23 : decode cX1_tick 23 = .ok (.aload_n 0, 1) := by decide +kernel
theorem dX1_tick_24 : decode cX1_tick 24 = .ok (.getfield 16, 3) := by decide +kernel
theorem dX1_tick_27 : decode cX1_tick 27 = .ok (.bipush 10, 2) := by decide +kernel
theorem dX1_tick_29 : decode cX1_tick 29 = .ok (.idiv, 1) := by decide +kernel
theorem dX1_tick_30 : decode cX1_tick 30 = .ok (.iadd, 1) := by decide +kernel
theorem dX1_tick_31 : decode cX1_tick 31 = .ok (.if_icmp .le 12, 3) := by decide +kernel
theorem dX1_tick_34 : decode cX1_tick 34 = .ok (.aload_n 0, 1) := by decide +kernel
theorem dX1_tick_35 : decode cX1_tick 35 = .ok (.getfield 29, 3) := by decide +kernel
theorem dX1_tick_38 : decode cX1_tick 38 = .ok (.iconst 1, 1) := by decide +kernel
theorem dX1_tick_39 : decode cX1_tick 39 = .ok (.iadd, 1) := by decide +kernel
theorem dX1_tick_40 : decode cX1_tick 40 = .ok (.goto 4, 3) := by decide +kernel
theorem dX1_tick_43 : decode cX1_tick 43 = .ok (.iconst 0, 1) := by decide +kernel
theorem dX1_tick_44 : decode cX1_tick 44 = .ok (.putfield 29, 3) := by decide +kernel
theorem dX1_tick_47 : decode cX1_tick 47 = .ok (.aload_n 0, 1) := by decide +kernel
theorem dX1_tick_48 : decode cX1_tick 48 = .ok (.iload_n 1, 1) := by decide +kernel
theorem dX1_tick_49 : decode cX1_tick 49 = .ok (.aload_n 0, 1) := by decide +kernel
theorem dX1_tick_50 : decode cX1_tick 50 = .ok (.getfield 16, 3) := by decide +kernel
theorem dX1_tick_53 : decode cX1_tick 53 = .ok (.bipush 20, 2) := by decide +kernel
theorem dX1_tick_55 : decode cX1_tick 55 = .ok (.idiv, 1) := by decide +kernel
theorem dX1_tick_56 : decode cX1_tick 56 = .ok (.ineg, 1) := by decide +kernel
theorem dX1_tick_57 : decode cX1_tick 57 = .ok (.if_icmp .ge 12, 3) := by decide +kernel
theorem dX1_tick_60 : decode cX1_tick 60 = .ok (.aload_n 0, 1) := by decide +kernel
theorem dX1_tick_61 : decode cX1_tick 61 = .ok (.getfield 32, 3) := by decide +kernel
theorem dX1_tick_64 : decode cX1_tick 64 = .ok (.iconst 1, 1) := by decide +kernel
theorem dX1_tick_65 : decode cX1_tick 65 = .ok (.iadd, 1) := by decide +kernel
theorem dX1_tick_66 : decode cX1_tick 66 = .ok (.goto 4, 3) := by decide +kernel
theorem dX1_tick_69 : decode cX1_tick 69 = .ok (.iconst 0, 1) := by decide +kernel
theorem dX1_tick_70 : decode cX1_tick 70 = .ok (.putfield 32, 3) := by decide +kernel
theorem dX1_tick_73 : decode cX1_tick 73 = .ok (.goto 35, 3) := by decide +kernel
theorem dX1_tick_76 : decode cX1_tick 76 = .ok (.aload_n 0, 1) := by decide +kernel
theorem dX1_tick_77 : decode cX1_tick 77 = .ok (.getfield 19, 3) := by decide +kernel
theorem dX1_tick_80 : decode cX1_tick 80 = .ok (.ifCond .eq 28, 3) := by decide +kernel
theorem dX1_tick_83 : decode cX1_tick 83 = .ok (.iload_n 2, 1) := by decide +kernel
theorem dX1_tick_84 : decode cX1_tick 84 = .ok (.ifCond .le 24, 3) := by decide +kernel
theorem dX1_tick_87 : decode cX1_tick 87 = .ok (.aload_n 0, 1) := by decide +kernel
theorem dX1_tick_88 : decode cX1_tick 88 = .ok (.aload_n 0, 1) := by decide +kernel
theorem dX1_tick_89 : decode cX1_tick 89 = .ok (.getfield 26, 3) := by decide +kernel
theorem dX1_tick_92 : decode cX1_tick 92 = .ok (.aload_n 0, 1) := by decide +kernel
theorem dX1_tick_93 : decode cX1_tick 93 = .ok (.getfield 13, 3) := by decide +kernel
theorem dX1_tick_96 : decode cX1_tick 96 = .ok (.iadd, 1) := by decide +kernel
theorem dX1_tick_97 : decode cX1_tick 97 = .ok (.iload_n 2, 1) := by decide +kernel
theorem dX1_tick_98 : decode cX1_tick 98 = .ok (.isub, 1) := by decide +kernel
theorem dX1_tick_99 : decode cX1_tick 99 = .ok (.sipush 1000, 3) := by decide +kernel
theorem dX1_tick_102 : decode cX1_tick 102 = .ok (.invokestatic 50, 3) := by decide +kernel
theorem dX1_tick_105 : decode cX1_tick 105 = .ok (.putfield 26, 3) := by decide +kernel
theorem dX1_tick_108 : decode cX1_tick 108 = .ok (.return_, 1) := by decide +kernel
theorem dX5_oneIf_0 : decode cX5_oneIf 0 = .ok (.iload_n 0, 1) := by decide +kernel
theorem dX5_oneIf_1 : decode cX5_oneIf 1 = .ok (.ifCond .eq 7, 3) := by decide +kernel
theorem dX5_oneIf_4 : decode cX5_oneIf 4 = .ok (.iconst 1, 1) := by decide +kernel
theorem dX5_oneIf_5 : decode cX5_oneIf 5 = .ok (.goto 4, 3) := by decide +kernel
theorem dX5_oneIf_8 : decode cX5_oneIf 8 = .ok (.iconst 0, 1) := by decide +kernel
theorem dX5_oneIf_9 : decode cX5_oneIf 9 = .ok (.ireturn, 1) := by decide +kernel
theorem dJ9_floorMod_7cf53_0 : decode cJ9_floorMod_7cf53 0 = .ok (.iload_n 0, 1) := by decide +kernel
theorem dJ9_floorMod_7cf53_1 : decode cJ9_floorMod_7cf53 1 = .ok (.iload_n 1, 1) := by decide +kernel
theorem dJ9_floorMod_7cf53_2 : decode cJ9_floorMod_7cf53 2 = .ok (.irem, 1) := by decide +kernel
theorem dJ9_floorMod_7cf53_3 : decode cJ9_floorMod_7cf53 3 = .ok (.istore_n 2, 1) := by decide +kernel
theorem dJ9_floorMod_7cf53_4 : decode cJ9_floorMod_7cf53 4 = .ok (.iload_n 0, 1) := by decide +kernel
theorem dJ9_floorMod_7cf53_5 : decode cJ9_floorMod_7cf53 5 = .ok (.iload_n 1, 1) := by decide +kernel
theorem dJ9_floorMod_7cf53_6 : decode cJ9_floorMod_7cf53 6 = .ok (.ixor, 1) := by decide +kernel
theorem dJ9_floorMod_7cf53_7 : decode cJ9_floorMod_7cf53 7 = .ok (.ifCond .ge 11, 3) := by decide +kernel
theorem dJ9_floorMod_7cf53_10 : decode cJ9_floorMod_7cf53 10 = .ok (.iload_n 2, 1) := by decide +kernel
theorem dJ9_floorMod_7cf53_11 : decode cJ9_floorMod_7cf53 11 = .ok (.ifCond .eq 7, 3) := by decide +kernel
theorem dJ9_floorMod_7cf53_14 : decode cJ9_floorMod_7cf53 14 = .ok (.iload_n 2, 1) := by decide +kernel
theorem dJ9_floorMod_7cf53_15 : decode cJ9_floorMod_7cf53 15 = .ok (.iload_n 1, 1) := by decide +kernel
theorem dJ9_floorMod_7cf53_16 : decode cJ9_floorMod_7cf53 16 = .ok (.iadd, 1) := by decide +kernel
theorem dJ9_floorMod_7cf53_17 : decode cJ9_floorMod_7cf53 17 = .ok (.ireturn, 1) := by decide +kernel
theorem dJ9_floorMod_7cf53_18 : decode cJ9_floorMod_7cf53 18 = .ok (.iload_n 2, 1) := by decide +kernel
theorem dJ9_floorMod_7cf53_19 : decode cJ9_floorMod_7cf53 19 = .ok (.ireturn, 1) := by decide +kernel
theorem dJ9_abs_0f7a4_0 : decode cJ9_abs_0f7a4 0 = .ok (.iload_n 0, 1) := by decide +kernel
theorem dJ9_abs_0f7a4_1 : decode cJ9_abs_0f7a4 1 = .ok (.ifCond .ge 8, 3) := by decide +kernel
theorem dJ9_abs_0f7a4_4 : decode cJ9_abs_0f7a4 4 = .ok (.iload_n 0, 1) := by decide +kernel
theorem dJ9_abs_0f7a4_5 : decode cJ9_abs_0f7a4 5 = .ok (.ineg, 1) := by decide +kernel
theorem dJ9_abs_0f7a4_6 : decode cJ9_abs_0f7a4 6 = .ok (.goto 4, 3) := by decide +kernel
theorem dJ9_abs_0f7a4_9 : decode cJ9_abs_0f7a4 9 = .ok (.iload_n 0, 1) := by decide +kernel
theorem dJ9_abs_0f7a4_10 : decode cJ9_abs_0f7a4 10 = .ok (.ireturn, 1) := by decide +kernel
theorem dJ9_max_7cf53_0 : decode cJ9_max_7cf53 0 = .ok (.iload_n 0, 1) := by decide +kernel
theorem dJ9_max_7cf53_1 : decode cJ9_max_7cf53 1 = .ok (.iload_n 1, 1) := by decide +kernel
theorem dJ9_max_7cf53_2 : decode cJ9_max_7cf53 2 = .ok (.if_icmp .lt 7, 3) := by decide +kernel
theorem dJ9_max_7cf53_5 : decode cJ9_max_7cf53 5 = .ok (.iload_n 0, 1) := by decide +kernel
theorem dJ9_max_7cf53_6 : decode cJ9_max_7cf53 6 = .ok (.goto 4, 3) := by decide +kernel
theorem dJ9_max_7cf53_9 : decode cJ9_max_7cf53 9 = .ok (.iload_n 1, 1) := by decide +kernel
theorem dJ9_max_7cf53_10 : decode cJ9_max_7cf53 10 = .ok (.ireturn, 1) := by decide +kernel
theorem dJ9_min_7cf53_0 : decode cJ9_min_7cf53 0 = .ok (.iload_n 0, 1) := by decide +kernel
theorem dJ9_min_7cf53_1 : decode cJ9_min_7cf53 1 = .ok (.iload_n 1, 1) := by decide +kernel
theorem dJ9_min_7cf53_2 : decode cJ9_min_7cf53 2 = .ok (.if_icmp .gt 7, 3) := by decide +kernel
theorem dJ9_min_7cf53_5 : decode cJ9_min_7cf53 5 = .ok (.iload_n 0, 1) := by decide +kernel
theorem dJ9_min_7cf53_6 : decode cJ9_min_7cf53 6 = .ok (.goto 4, 3) := by decide +kernel
theorem dJ9_min_7cf53_9 : decode cJ9_min_7cf53 9 = .ok (.iload_n 1, 1) := by decide +kernel
theorem dJ9_min_7cf53_10 : decode cJ9_min_7cf53 10 = .ok (.ireturn, 1) := by decide +kernel
end
section
set_option maxHeartbeats 4000000 in
set_option maxRecDepth 100000 in
theorem c_J9_floorMod_7cf53 (l : Launch) (D : va_G) (G : Nat → ClassId) (x y : Int32) (H : Heap) (hy : ¬ y = 0) : Met l yJ9_floorMod_7cf53 wsJ9_floorMod_7cf53 ({ frames := 0, cells := 0, slots := 0, locals := 0 } : Room) (va_Pc [.int x, .int y] (CX D G H)) (QI nA (fun r h => H = h ∧ fmd x y = r)) 0 0 (nA) := by
  refine va_MetF (cc := cJ9_floorMod_7cf53) (maxL := 3) (ret := (some .int)) (by decide +kernel) rfl ?_
  intro p e s m args below meth c s₁ B hml hv
  obtain ⟨rfl, rfl, hK, hN⟩ := hv
  have hx := B.exec
  have hb := B.bytes
  have hr := B.returns
  have hts := atoms_spec (ws := wsJ9_floorMod_7cf53) B.pre
  have hown : s.vm.findClass RJ9 = some m.cls := findClass_of_methodNamed B.named
  have hlocks := B.notSynchronized
  have hF : CallFix p m c cJ9_floorMod_7cf53 3 s ([.int x, .int y] : List Value).toArray wsJ9_floorMod_7cf53 RJ9 := ⟨hx, hb, hml, hown, hts⟩
  have hS : va_S (nA) s.heap s.heap [] := va_S.rf
  have hl := lv_entry ([.int x, .int y]) (n := 3) (Nat.le_of_ble_eq_true rfl)
  rw [lg_entry_eq]
  generalize (lg_sl ([.int x, .int y]) ++ List.replicate (3 - (lg_sl ([.int x, .int y])).length) Slot.unset).toArray = ls at hl ⊢
  have hl : lv_has ls 3 [(0, .int x), (1, .int y)] := hl
  refine lv_iload_n hx hb dJ9_floorMod_7cf53_0 rfl (lv_at hl 0 rfl) ?_
  refine lv_iload_n hx hb dJ9_floorMod_7cf53_1 rfl (lv_at hl 1 rfl) ?_
  refine lv_irem hx hb dJ9_floorMod_7cf53_2 hy ?_
  refine lv_istore_n (lv' := [(2, .int (x - x / y * y)), (0, .int x), (1, .int y)]) hx hb dJ9_floorMod_7cf53_3 rfl hl (by decide) rfl (fun ls hl => ?_)
  refine lv_iload_n hx hb dJ9_floorMod_7cf53_4 rfl (lv_at hl 1 rfl) ?_
  refine lv_iload_n hx hb dJ9_floorMod_7cf53_5 rfl (lv_at hl 2 rfl) ?_
  refine lv_ixor hx hb dJ9_floorMod_7cf53_6 ?_
  refine lv_if_ge (tgt := 18) hx hb dJ9_floorMod_7cf53_7 (by decide) (fun c1 => ?_) (fun c1 => ?_)
  · refine lv_iload_n hx hb dJ9_floorMod_7cf53_18 rfl (lv_at hl 0 rfl) ?_
    exact W.iret hx hb hr (fun t ht hW => ⟨⟨x - x / y * y, s.heap, rfl, ⟨rfl, by simp [fmd, c1]⟩, ht⟩, hS.F ht⟩) hS.2.2 dJ9_floorMod_7cf53_19
  refine lv_iload_n hx hb dJ9_floorMod_7cf53_10 rfl (lv_at hl 0 rfl) ?_
  refine lv_if_eq (tgt := 18) hx hb dJ9_floorMod_7cf53_11 (by decide) (fun c2 => ?_) (fun c2 => ?_)
  · refine lv_iload_n hx hb dJ9_floorMod_7cf53_18 rfl (lv_at hl 0 rfl) ?_
    exact W.iret hx hb hr (fun t ht hW => ⟨⟨x - x / y * y, s.heap, rfl, ⟨rfl, by simp [fmd, c1, c2]⟩, ht⟩, hS.F ht⟩) hS.2.2 dJ9_floorMod_7cf53_19
  refine lv_iload_n hx hb dJ9_floorMod_7cf53_14 rfl (lv_at hl 0 rfl) ?_
  refine lv_iload_n hx hb dJ9_floorMod_7cf53_15 rfl (lv_at hl 2 rfl) ?_
  refine lv_iadd hx hb dJ9_floorMod_7cf53_16 ?_
  exact W.iret hx hb hr (fun t ht hW => ⟨⟨(x - x / y * y) + y, s.heap, rfl, ⟨rfl, by simp [fmd, c1, c2]⟩, ht⟩, hS.F ht⟩) hS.2.2 dJ9_floorMod_7cf53_17

set_option maxHeartbeats 4000000 in
set_option maxRecDepth 100000 in
theorem c_X5_oneIf (l : Launch) (D : va_G) (G : Nat → ClassId) (x : Int32) (H : Heap)  : Met l yX5_oneIf wsX5_oneIf ({ frames := 0, cells := 0, slots := 0, locals := 0 } : Room) (va_Pc [.int x] (CX D G H)) (QI nA (fun r h => H = h ∧ (if x = 0 then 0 else 1) = r)) 0 0 (nA) := by
  refine Met.ofW (cc := cX5_oneIf) (maxL := 1) (ret := (some .int)) (by decide) rfl ?_
  intro p e s m args below meth c s₁ B hml hv
  obtain ⟨rfl, rfl, hK, hN⟩ := hv
  have hx := B.exec
  have hb := B.bytes
  have hr := B.returns
  have hts := atoms_spec (ws := wsX5_oneIf) B.pre
  have hown : s.vm.findClass RX5 = some m.cls := findClass_of_methodNamed B.named
  have hlocks := B.notSynchronized
  have hF : CallFix p m c cX5_oneIf 1 s ([.int x] : List Value).toArray wsX5_oneIf RX5 := ⟨hx, hb, hml, hown, hts⟩
  have hS : va_S (nA) s.heap s.heap [] := va_S.rf
  have hl := lv_entry ([.int x]) (n := 1) (Nat.le_of_ble_eq_true rfl)
  rw [lg_entry_eq]
  generalize (lg_sl ([.int x]) ++ List.replicate (1 - (lg_sl ([.int x])).length) Slot.unset).toArray = ls at hl ⊢
  have hl : lv_has ls 1 [(0, .int x)] := hl
  refine lv_iload_n hx hb dX5_oneIf_0 rfl (lv_at hl 0 rfl) ?_
  refine lv_if_eq (tgt := 8) hx hb dX5_oneIf_1 (by decide) (fun c1 => ?_) (fun c1 => ?_)
  · refine lv_iconst (v := 0) hx hb dX5_oneIf_8 (by decide) ?_
    exact W.iret hx hb hr (fun t ht hW => ⟨⟨0, s.heap, rfl, ⟨rfl, by simp [c1]⟩, ht⟩, hS.F ht⟩) hS.2.2 dX5_oneIf_9
  refine lv_iconst (v := 1) hx hb dX5_oneIf_4 (by decide) ?_
  refine lv_goto (tgt := 9) hx hb dX5_oneIf_5 (by decide) ?_
  exact W.iret hx hb hr (fun t ht hW => ⟨⟨1, s.heap, rfl, ⟨rfl, by simp [c1]⟩, ht⟩, hS.F ht⟩) hS.2.2 dX5_oneIf_9

set_option maxHeartbeats 4000000 in
set_option maxRecDepth 100000 in
theorem c_X1_gives (l : Launch) (D : va_G) (G : Nat → ClassId) (a i : Nat) (R : Nat → Int32) (f : Int32) (H : Heap) (ha : va_at D vwCl (a, .inr (1, dF R i)) H) : Met l yX1_gives wsX1_gives ({ frames := 0, cells := 0, slots := 0, locals := 0 } : Room) (va_Pc [.ref a, .int f] (CX D G H)) (QI nA (fun r h => H = h ∧ gv R i f = r)) 0 0 (nA) := by
  refine Met.ofW (cc := cX1_gives) (maxL := 2) (ret := (some .int)) (by decide) rfl ?_
  intro p e s m args below meth c s₁ B hml hv
  obtain ⟨rfl, rfl, hK, hN⟩ := hv
  have hx := B.exec
  have hb := B.bytes
  have hr := B.returns
  have hts := atoms_spec (ws := wsX1_gives) B.pre
  have hown : s.vm.findClass RX1 = some m.cls := findClass_of_methodNamed B.named
  have hlocks := B.notSynchronized
  have hF : CallFix p m c cX1_gives 2 s ([.ref a, .int f] : List Value).toArray wsX1_gives RX1 := ⟨hx, hb, hml, hown, hts⟩
  have hS : va_S (nA) s.heap s.heap [] := va_S.rf
  have hl := lv_entry ([.ref a, .int f]) (n := 2) (Nat.le_of_ble_eq_true rfl)
  rw [lg_entry_eq]
  generalize (lg_sl ([.ref a, .int f]) ++ List.replicate (2 - (lg_sl ([.ref a, .int f])).length) Slot.unset).toArray = ls at hl ⊢
  have hl : lv_has ls 2 [(0, .ref a), (1, .int f)] := hl
  refine lv_aload_n hx hb dX1_gives_0 rfl (lv_at hl 0 rfl) ?_
  refine dp_get hx hb hts (dp_hin 5 rfl) hown hK ha rfl 4 (by decide) (hts (.fieldLink RX1 23 "DroopBoard$Diesel" "closed" "Z") (List.mem_of_getElem? (i := 1) rfl)) rfl dX1_gives_1 ?_
  refine lv_if_eq (tgt := 14) hx hb dX1_gives_4 (by decide) (fun c1 => ?_) (fun c1 => ?_)
  · refine lv_iconst (v := 0) hx hb dX1_gives_14 (by decide) ?_
    exact W.iret hx hb hr (fun t ht hW => ⟨⟨0, s.heap, rfl, ⟨rfl, by simp [gv, c1]⟩, ht⟩, hS.F ht⟩) hS.2.2 dX1_gives_15
  refine lv_aload_n hx hb dX1_gives_7 rfl (lv_at hl 0 rfl) ?_
  refine dp_get hx hb hts (dp_hin 5 rfl) hown hK ha rfl 1 (by decide) (hts (.fieldLink RX1 7 "DroopBoard$Diesel" "droop" "I") (List.mem_of_getElem? (i := 2) rfl)) rfl dX1_gives_8 ?_
  refine lv_if_ne (tgt := 16) hx hb dX1_gives_11 (by decide) (fun c2 => ?_) (fun c2 => ?_)
  · refine lv_aload_n hx hb dX1_gives_16 rfl (lv_at hl 0 rfl) ?_
    refine dp_get hx hb hts (dp_hin 5 rfl) hown hK ha rfl 2 (by decide) (hts (.fieldLink RX1 13 "DroopBoard$Diesel" "speed" "I") (List.mem_of_getElem? (i := 3) rfl)) rfl dX1_gives_17 ?_
    refine lv_iload_n hx hb dX1_gives_20 rfl (lv_at hl 1 rfl) ?_
    refine lv_isub hx hb dX1_gives_21 ?_
    refine lv_aload_n hx hb dX1_gives_22 rfl (lv_at hl 0 rfl) ?_
    refine dp_get hx hb hts (dp_hin 5 rfl) hown hK ha rfl 0 (by decide) (hts (.fieldLink RX1 16 "DroopBoard$Diesel" "rating" "I") (List.mem_of_getElem? (i := 4) rfl)) rfl dX1_gives_23 ?_
    refine lv_imul hx hb dX1_gives_26 ?_
    refine lv_aload_n hx hb dX1_gives_27 rfl (lv_at hl 0 rfl) ?_
    refine dp_get hx hb hts (dp_hin 5 rfl) hown hK ha rfl 1 (by decide) (hts (.fieldLink RX1 7 "DroopBoard$Diesel" "droop" "I") (List.mem_of_getElem? (i := 2) rfl)) rfl dX1_gives_28 ?_
    refine lv_idiv hx hb dX1_gives_31 c2 ?_
    exact W.iret hx hb hr (fun t ht hW => ⟨⟨(((R (10 + 10 * i)) - f) * (R (8 + 10 * i))) / (R (9 + 10 * i)), s.heap, rfl, ⟨rfl, by simp [gv, c1, c2]⟩, ht⟩, hS.F ht⟩) hS.2.2 dX1_gives_32
  refine lv_iconst (v := 0) hx hb dX1_gives_14 (by decide) ?_
  exact W.iret hx hb hr (fun t ht hW => ⟨⟨0, s.heap, rfl, ⟨rfl, by simp [gv, c1, c2]⟩, ht⟩, hS.F ht⟩) hS.2.2 dX1_gives_15

set_option maxHeartbeats 4000000 in
set_option maxRecDepth 100000 in
theorem c_X1_lamps (l : Launch) (D : va_G) (G : Nat → ClassId) (a i : Nat) (R : Nat → Int32) (H : Heap) (ha : va_at D vwCl (a, .inr (1, dF R i)) H) : Met l yX1_lamps wsX1_lamps ({ frames := 1, cells := 0, slots := 0, locals := 21 } : Room) (va_Pc [.ref a] (CX D G H)) (QI nA (fun r h => H = h ∧ lam (R (13 + 10 * i)) = r)) 0 0 (nA) := by
  refine Met.ofW (cc := cX1_lamps) (maxL := 1) (ret := (some .int)) (by decide) rfl ?_
  intro p e s m args below meth c s₁ B hml hv
  obtain ⟨rfl, rfl, hK, hN⟩ := hv
  have hx := B.exec
  have hb := B.bytes
  have hr := B.returns
  have hts := atoms_spec (ws := wsX1_lamps) B.pre
  have hown : s.vm.findClass RX1 = some m.cls := findClass_of_methodNamed B.named
  have hlocks := B.notSynchronized
  have hF : CallFix p m c cX1_lamps 1 s ([.ref a] : List Value).toArray wsX1_lamps RX1 := ⟨hx, hb, hml, hown, hts⟩
  have hS : va_S (nA) s.heap s.heap [] := va_S.rf
  have hl := lv_entry ([.ref a]) (n := 1) (Nat.le_of_ble_eq_true rfl)
  rw [lg_entry_eq]
  generalize (lg_sl ([.ref a]) ++ List.replicate (1 - (lg_sl ([.ref a])).length) Slot.unset).toArray = ls at hl ⊢
  have hl : lv_has ls 1 [(0, .ref a)] := hl
  refine lv_aload_n hx hb dX1_lamps_0 rfl (lv_at hl 0 rfl) ?_
  refine dp_get hx hb hts (dp_hin 6 rfl) hown hK ha rfl 5 (by decide) (hts (.fieldLink RX1 26 "DroopBoard$Diesel" "phase" "I") (List.mem_of_getElem? (i := 1) rfl)) rfl dX1_lamps_1 ?_
  refine lv_sipush (v := 1000) hx hb dX1_lamps_4 (by decide) ?_
  refine lv_aload_n hx hb dX1_lamps_7 rfl (lv_at hl 0 rfl) ?_
  refine dp_get hx hb hts (dp_hin 6 rfl) hown hK ha rfl 5 (by decide) (hts (.fieldLink RX1 26 "DroopBoard$Diesel" "phase" "I") (List.mem_of_getElem? (i := 1) rfl)) rfl dX1_lamps_8 ?_
  refine lv_isub hx hb dX1_lamps_11 ?_
  refine dp_min (rest := []) hx hb (hml.trans hl.1.symm) hown (hts (.methodLink RX1 44 Lib.Math.min.name) (List.mem_of_getElem? (i := 2) rfl)) (hts (.static Lib.Math.min.name) (List.mem_of_getElem? (i := 3) rfl)) (hts (.initialized "java/lang/Math") (List.mem_of_getElem? (i := 4) rfl)) (hts (.code Lib.Math.min.name Lib.Math.min.code 2 (some .int)) (List.mem_of_getElem? (i := 5) rfl)) (Nat.le_of_ble_eq_true rfl) (Nat.le_of_ble_eq_true rfl) (Nat.le_of_ble_eq_true rfl) (Nat.le_of_ble_eq_true rfl) dX1_lamps_12 ?_
  exact W.iret hx hb hr (fun t ht hW => ⟨⟨mn (R (13 + 10 * i)) (1000 - (R (13 + 10 * i))), s.heap, rfl, ⟨rfl, rfl⟩, ht⟩, hS.F ht⟩) hS.2.2 dX1_lamps_15

set_option maxHeartbeats 4000000 in
set_option maxRecDepth 100000 in
theorem c_X1_canStart (l : Launch) (D : va_G) (G : Nat → ClassId) (a i : Nat) (R : Nat → Int32) (H : Heap) (ha : va_at D vwCl (a, .inr (1, dF R i)) H) : Met l yX1_canStart wsX1_canStart ({ frames := 0, cells := 0, slots := 0, locals := 0 } : Room) (va_Pc [.ref a] (CX D G H)) (QI nA (fun r h => H = h ∧ (if R (11 + 10 * i) = 0 then 1 else 0) = r)) 0 0 (nA) := by
  refine Met.ofW (cc := cX1_canStart) (maxL := 1) (ret := (some .boolean)) (by decide) rfl ?_
  intro p e s m args below meth c s₁ B hml hv
  obtain ⟨rfl, rfl, hK, hN⟩ := hv
  have hx := B.exec
  have hb := B.bytes
  have hr := B.returns
  have hts := atoms_spec (ws := wsX1_canStart) B.pre
  have hown : s.vm.findClass RX1 = some m.cls := findClass_of_methodNamed B.named
  have hlocks := B.notSynchronized
  have hF : CallFix p m c cX1_canStart 1 s ([.ref a] : List Value).toArray wsX1_canStart RX1 := ⟨hx, hb, hml, hown, hts⟩
  have hS : va_S (nA) s.heap s.heap [] := va_S.rf
  have hl := lv_entry ([.ref a]) (n := 1) (Nat.le_of_ble_eq_true rfl)
  rw [lg_entry_eq]
  generalize (lg_sl ([.ref a]) ++ List.replicate (1 - (lg_sl ([.ref a])).length) Slot.unset).toArray = ls at hl ⊢
  have hl : lv_has ls 1 [(0, .ref a)] := hl
  refine lv_aload_n hx hb dX1_canStart_0 rfl (lv_at hl 0 rfl) ?_
  refine dp_get hx hb hts (dp_hin 2 rfl) hown hK ha rfl 3 (by decide) (hts (.fieldLink RX1 19 "DroopBoard$Diesel" "runs" "Z") (List.mem_of_getElem? (i := 1) rfl)) rfl dX1_canStart_1 ?_
  refine lv_if_ne (tgt := 11) hx hb dX1_canStart_4 (by decide) (fun c1 => ?_) (fun c1 => ?_)
  · refine lv_iconst (v := 0) hx hb dX1_canStart_11 (by decide) ?_
    exact W.zret (ty := .boolean) hx hb hr rfl (fun t ht hW => ⟨⟨0, s.heap, rfl, ⟨rfl, by simp [c1]⟩, ht⟩, hS.F ht⟩) hS.2.2 dX1_canStart_12
  refine lv_iconst (v := 1) hx hb dX1_canStart_7 (by decide) ?_
  refine lv_goto (tgt := 12) hx hb dX1_canStart_8 (by decide) ?_
  exact W.zret (ty := .boolean) hx hb hr rfl (fun t ht hW => ⟨⟨1, s.heap, rfl, ⟨rfl, by simp [c1]⟩, ht⟩, hS.F ht⟩) hS.2.2 dX1_canStart_12

set_option maxHeartbeats 4000000 in
set_option maxRecDepth 100000 in
theorem c_X1_canStop (l : Launch) (D : va_G) (G : Nat → ClassId) (a i : Nat) (R : Nat → Int32) (H : Heap) (ha : va_at D vwCl (a, .inr (1, dF R i)) H) : Met l yX1_canStop wsX1_canStop ({ frames := 0, cells := 0, slots := 0, locals := 0 } : Room) (va_Pc [.ref a] (CX D G H)) (QI nA (fun r h => H = h ∧ (if R (11 + 10 * i) = 0 then 0 else if R (12 + 10 * i) = 0 then 1 else 0) = r)) 0 0 (nA) := by
  refine Met.ofW (cc := cX1_canStop) (maxL := 1) (ret := (some .boolean)) (by decide) rfl ?_
  intro p e s m args below meth c s₁ B hml hv
  obtain ⟨rfl, rfl, hK, hN⟩ := hv
  have hx := B.exec
  have hb := B.bytes
  have hr := B.returns
  have hts := atoms_spec (ws := wsX1_canStop) B.pre
  have hown : s.vm.findClass RX1 = some m.cls := findClass_of_methodNamed B.named
  have hlocks := B.notSynchronized
  have hF : CallFix p m c cX1_canStop 1 s ([.ref a] : List Value).toArray wsX1_canStop RX1 := ⟨hx, hb, hml, hown, hts⟩
  have hS : va_S (nA) s.heap s.heap [] := va_S.rf
  have hl := lv_entry ([.ref a]) (n := 1) (Nat.le_of_ble_eq_true rfl)
  rw [lg_entry_eq]
  generalize (lg_sl ([.ref a]) ++ List.replicate (1 - (lg_sl ([.ref a])).length) Slot.unset).toArray = ls at hl ⊢
  have hl : lv_has ls 1 [(0, .ref a)] := hl
  refine lv_aload_n hx hb dX1_canStop_0 rfl (lv_at hl 0 rfl) ?_
  refine dp_get hx hb hts (dp_hin 3 rfl) hown hK ha rfl 3 (by decide) (hts (.fieldLink RX1 19 "DroopBoard$Diesel" "runs" "Z") (List.mem_of_getElem? (i := 1) rfl)) rfl dX1_canStop_1 ?_
  refine lv_if_eq (tgt := 18) hx hb dX1_canStop_4 (by decide) (fun c1 => ?_) (fun c1 => ?_)
  · refine lv_iconst (v := 0) hx hb dX1_canStop_18 (by decide) ?_
    exact W.zret (ty := .boolean) hx hb hr rfl (fun t ht hW => ⟨⟨0, s.heap, rfl, ⟨rfl, by simp [c1]⟩, ht⟩, hS.F ht⟩) hS.2.2 dX1_canStop_19
  refine lv_aload_n hx hb dX1_canStop_7 rfl (lv_at hl 0 rfl) ?_
  refine dp_get hx hb hts (dp_hin 3 rfl) hown hK ha rfl 4 (by decide) (hts (.fieldLink RX1 23 "DroopBoard$Diesel" "closed" "Z") (List.mem_of_getElem? (i := 2) rfl)) rfl dX1_canStop_8 ?_
  refine lv_if_ne (tgt := 18) hx hb dX1_canStop_11 (by decide) (fun c2 => ?_) (fun c2 => ?_)
  · refine lv_iconst (v := 0) hx hb dX1_canStop_18 (by decide) ?_
    exact W.zret (ty := .boolean) hx hb hr rfl (fun t ht hW => ⟨⟨0, s.heap, rfl, ⟨rfl, by simp [c1, c2]⟩, ht⟩, hS.F ht⟩) hS.2.2 dX1_canStop_19
  refine lv_iconst (v := 1) hx hb dX1_canStop_14 (by decide) ?_
  refine lv_goto (tgt := 19) hx hb dX1_canStop_15 (by decide) ?_
  exact W.zret (ty := .boolean) hx hb hr rfl (fun t ht hW => ⟨⟨1, s.heap, rfl, ⟨rfl, by simp [c1, c2]⟩, ht⟩, hS.F ht⟩) hS.2.2 dX1_canStop_19

set_option maxHeartbeats 4000000 in
set_option maxRecDepth 100000 in
theorem c_X1_beginAnew (l : Launch) (D : va_G) (G : Nat → ClassId) (a i : Nat) (R : Nat → Int32) (H : Heap) (ha : va_at D vwCl (a, .inr (1, dF R i)) H) : Met l yX1_beginAnew wsX1_beginAnew ({ frames := 0, cells := 0, slots := 0, locals := 0 } : Room) (va_Pc [.ref a] (CX D G H)) (QV (fun q => q = a) (fun h => h.size = H.size ∧ va_at D vwCl (a, .inr (1, dF (rst R i) i)) h)) 0 0 (fun q => q = a) := by
  refine Met.ofW (cc := cX1_beginAnew) (maxL := 1) (ret := none) (by decide) rfl ?_
  intro p e s m args below meth c s₁ B hml hv
  obtain ⟨rfl, rfl, hK, hN⟩ := hv
  have hx := B.exec
  have hb := B.bytes
  have hr := B.returns
  have hts := atoms_spec (ws := wsX1_beginAnew) B.pre
  have hown : s.vm.findClass RX1 = some m.cls := findClass_of_methodNamed B.named
  have hlocks := B.notSynchronized
  have hF : CallFix p m c cX1_beginAnew 1 s ([.ref a] : List Value).toArray wsX1_beginAnew RX1 := ⟨hx, hb, hml, hown, hts⟩
  have hS : va_S (fun q => q = a) s.heap s.heap [] := va_S.rf
  have hl := lv_entry ([.ref a]) (n := 1) (Nat.le_of_ble_eq_true rfl)
  rw [lg_entry_eq]
  generalize (lg_sl ([.ref a]) ++ List.replicate (1 - (lg_sl ([.ref a])).length) Slot.unset).toArray = ls at hl ⊢
  have hl : lv_has ls 1 [(0, .ref a)] := hl
  refine lv_aload_n hx hb dX1_beginAnew_0 rfl (lv_at hl 0 rfl) ?_
  refine lv_iconst (v := 0) hx hb dX1_beginAnew_1 (by decide) ?_
  refine dp_put (A := fun q => q = a) (v := .int 0) hx hb hts (dp_hin 4 rfl) tyX1 tyX1_ok nmX1 hown hK ha rfl hS rfl 5 (by decide) (hts (.fieldLink RX1 26 "DroopBoard$Diesel" "phase" "I") (List.mem_of_getElem? (i := 1) rfl)) rfl rfl rfl (Nat.le_of_ble_eq_true rfl) dX1_beginAnew_2 (fun H1 locs hH1 hzH1 hkH1 hS => ?_)
  refine lv_aload_n hx hb dX1_beginAnew_5 rfl (lv_at hl 0 rfl) ?_
  refine lv_iconst (v := 0) hx hb dX1_beginAnew_6 (by decide) ?_
  refine dp_put (A := fun q => q = a) (v := .int 0) hx hb hts (dp_hin 4 rfl) tyX1 tyX1_ok nmX1 hown hK hH1 rfl hS rfl 6 (by decide) (hts (.fieldLink RX1 29 "DroopBoard$Diesel" "overloaded" "I") (List.mem_of_getElem? (i := 2) rfl)) rfl rfl rfl (Nat.le_of_ble_eq_true rfl) dX1_beginAnew_7 (fun H2 locs hH2 hzH2 hkH2 hS => ?_)
  refine lv_aload_n hx hb dX1_beginAnew_10 rfl (lv_at hl 0 rfl) ?_
  refine lv_iconst (v := 0) hx hb dX1_beginAnew_11 (by decide) ?_
  refine dp_put (A := fun q => q = a) (v := .int 0) hx hb hts (dp_hin 4 rfl) tyX1 tyX1_ok nmX1 hown hK hH2 rfl hS rfl 7 (by decide) (hts (.fieldLink RX1 32 "DroopBoard$Diesel" "driven" "I") (List.mem_of_getElem? (i := 3) rfl)) rfl rfl rfl (Nat.le_of_ble_eq_true rfl) dX1_beginAnew_12 (fun H3 locs hH3 hzH3 hkH3 hS => ?_)
  exact W.vret hx hb hr (fun t ht hW => ⟨⟨H3, rfl, ⟨(hzH3.trans (hzH2.trans hzH1)), by rw [show dF (rst R i) i = [.int (R (8 + 10 * i)), .int (R (9 + 10 * i)), .int (R (10 + 10 * i)), .int (R (11 + 10 * i)), .int (R (12 + 10 * i)), .int 0, .int 0, .int 0, .int (R (16 + 10 * i)), .int (R (17 + 10 * i))] from by simp [dF, upd, rst]]; exact hH3⟩, ht⟩, hS.F ht⟩) hS.2.2 dX1_beginAnew_15

set_option maxHeartbeats 4000000 in
set_option maxRecDepth 100000 in
theorem c_X1_start (l : Launch) (D : va_G) (G : Nat → ClassId) (a i : Nat) (R : Nat → Int32) (H : Heap) (ha : va_at D vwCl (a, .inr (1, dF R i)) H) : Met l yX1_start wsX1_start ({ frames := 1, cells := 0, slots := 0, locals := 20 } : Room) (va_Pc [.ref a] (CX D G H)) (QV (fun q => q = a) (fun h => h.size = H.size ∧ va_at D vwCl (a, .inr (1, dF (rst (upd R (11 + 10 * i) 1) i) i)) h)) 0 0 (fun q => q = a) := by
  refine Met.ofW (cc := cX1_start) (maxL := 1) (ret := none) (by decide) rfl ?_
  intro p e s m args below meth c s₁ B hml hv
  obtain ⟨rfl, rfl, hK, hN⟩ := hv
  have hx := B.exec
  have hb := B.bytes
  have hr := B.returns
  have hts := atoms_spec (ws := wsX1_start) B.pre
  have hown : s.vm.findClass RX1 = some m.cls := findClass_of_methodNamed B.named
  have hlocks := B.notSynchronized
  have hF : CallFix p m c cX1_start 1 s ([.ref a] : List Value).toArray wsX1_start RX1 := ⟨hx, hb, hml, hown, hts⟩
  have hS : va_S (fun q => q = a) s.heap s.heap [] := va_S.rf
  have hl := lv_entry ([.ref a]) (n := 1) (Nat.le_of_ble_eq_true rfl)
  rw [lg_entry_eq]
  generalize (lg_sl ([.ref a]) ++ List.replicate (1 - (lg_sl ([.ref a])).length) Slot.unset).toArray = ls at hl ⊢
  have hl : lv_has ls 1 [(0, .ref a)] := hl
  refine lv_aload_n hx hb dX1_start_0 rfl (lv_at hl 0 rfl) ?_
  refine lv_iconst (v := 1) hx hb dX1_start_1 (by decide) ?_
  refine dp_put (A := fun q => q = a) (v := .int 1) hx hb hts (dp_hin 10 rfl) tyX1 tyX1_ok nmX1 hown hK ha rfl hS rfl 3 (by decide) (hts (.fieldLink RX1 19 "DroopBoard$Diesel" "runs" "Z") (List.mem_of_getElem? (i := 1) rfl)) rfl rfl rfl (Nat.le_of_ble_eq_true rfl) dX1_start_2 (fun H1 locs hH1 hzH1 hkH1 hS => ?_)
  refine lv_aload_n hx hb dX1_start_5 rfl (lv_at hl 0 rfl) ?_
  have hc9 : va_at D vwCl (a, .inr (1, dF (upd R (11 + 10 * i) 1) i)) H1 := by rw [show dF (upd R (11 + 10 * i) 1) i = [.int (R (8 + 10 * i)), .int (R (9 + 10 * i)), .int (R (10 + 10 * i)), .int 1, .int (R (12 + 10 * i)), .int (R (13 + 10 * i)), .int (R (14 + 10 * i)), .int (R (15 + 10 * i)), .int (R (16 + 10 * i)), .int (R (17 + 10 * i))] from by simp [dF, upd]]; exact hH1
  refine dp_Vv hF hK hN (c_X1_beginAnew l D G a i (upd R (11 + 10 * i) 1) _ hc9) (cwV 0 hts gX1_start_X1_beginAnew rfl rfl rfl (by decide +kernel) ⟨Nat.le_of_ble_eq_true rfl, Nat.le_of_ble_eq_true rfl⟩) (dp_recv hK hc9 rfl) hS (fun _ h => h) [] rfl rfl hl.1 (Nat.le_of_ble_eq_true rfl) dX1_start_6 ⟨Nat.le_of_ble_eq_true rfl, Nat.le_of_ble_eq_true rfl⟩ (fun H2 locs hp hzH2 hkH2 hS => ?_)
  obtain ⟨hz9, hc9⟩ := hp
  exact W.vret hx hb hr (fun t ht hW => ⟨⟨H2, rfl, ⟨(hz9.trans hzH1), hc9⟩, ht⟩, hS.F ht⟩) hS.2.2 dX1_start_9

set_option maxHeartbeats 4000000 in
set_option maxRecDepth 100000 in
theorem c_X1_stop (l : Launch) (D : va_G) (G : Nat → ClassId) (a i : Nat) (R : Nat → Int32) (H : Heap) (ha : va_at D vwCl (a, .inr (1, dF R i)) H) : Met l yX1_stop wsX1_stop ({ frames := 1, cells := 0, slots := 0, locals := 20 } : Room) (va_Pc [.ref a] (CX D G H)) (QV (fun q => q = a) (fun h => h.size = H.size ∧ va_at D vwCl (a, .inr (1, dF (rst (upd R (11 + 10 * i) 0) i) i)) h)) 0 0 (fun q => q = a) := by
  refine Met.ofW (cc := cX1_stop) (maxL := 1) (ret := none) (by decide) rfl ?_
  intro p e s m args below meth c s₁ B hml hv
  obtain ⟨rfl, rfl, hK, hN⟩ := hv
  have hx := B.exec
  have hb := B.bytes
  have hr := B.returns
  have hts := atoms_spec (ws := wsX1_stop) B.pre
  have hown : s.vm.findClass RX1 = some m.cls := findClass_of_methodNamed B.named
  have hlocks := B.notSynchronized
  have hF : CallFix p m c cX1_stop 1 s ([.ref a] : List Value).toArray wsX1_stop RX1 := ⟨hx, hb, hml, hown, hts⟩
  have hS : va_S (fun q => q = a) s.heap s.heap [] := va_S.rf
  have hl := lv_entry ([.ref a]) (n := 1) (Nat.le_of_ble_eq_true rfl)
  rw [lg_entry_eq]
  generalize (lg_sl ([.ref a]) ++ List.replicate (1 - (lg_sl ([.ref a])).length) Slot.unset).toArray = ls at hl ⊢
  have hl : lv_has ls 1 [(0, .ref a)] := hl
  refine lv_aload_n hx hb dX1_stop_0 rfl (lv_at hl 0 rfl) ?_
  refine lv_iconst (v := 0) hx hb dX1_stop_1 (by decide) ?_
  refine dp_put (A := fun q => q = a) (v := .int 0) hx hb hts (dp_hin 10 rfl) tyX1 tyX1_ok nmX1 hown hK ha rfl hS rfl 3 (by decide) (hts (.fieldLink RX1 19 "DroopBoard$Diesel" "runs" "Z") (List.mem_of_getElem? (i := 1) rfl)) rfl rfl rfl (Nat.le_of_ble_eq_true rfl) dX1_stop_2 (fun H1 locs hH1 hzH1 hkH1 hS => ?_)
  refine lv_aload_n hx hb dX1_stop_5 rfl (lv_at hl 0 rfl) ?_
  have hc9 : va_at D vwCl (a, .inr (1, dF (upd R (11 + 10 * i) 0) i)) H1 := by rw [show dF (upd R (11 + 10 * i) 0) i = [.int (R (8 + 10 * i)), .int (R (9 + 10 * i)), .int (R (10 + 10 * i)), .int 0, .int (R (12 + 10 * i)), .int (R (13 + 10 * i)), .int (R (14 + 10 * i)), .int (R (15 + 10 * i)), .int (R (16 + 10 * i)), .int (R (17 + 10 * i))] from by simp [dF, upd]]; exact hH1
  refine dp_Vv hF hK hN (c_X1_beginAnew l D G a i (upd R (11 + 10 * i) 0) _ hc9) (cwV 0 hts gX1_stop_X1_beginAnew rfl rfl rfl (by decide +kernel) ⟨Nat.le_of_ble_eq_true rfl, Nat.le_of_ble_eq_true rfl⟩) (dp_recv hK hc9 rfl) hS (fun _ h => h) [] rfl rfl hl.1 (Nat.le_of_ble_eq_true rfl) dX1_stop_6 ⟨Nat.le_of_ble_eq_true rfl, Nat.le_of_ble_eq_true rfl⟩ (fun H2 locs hp hzH2 hkH2 hS => ?_)
  obtain ⟨hz9, hc9⟩ := hp
  exact W.vret hx hb hr (fun t ht hW => ⟨⟨H2, rfl, ⟨(hz9.trans hzH1), hc9⟩, ht⟩, hS.F ht⟩) hS.2.2 dX1_stop_9

set_option maxHeartbeats 4000000 in
set_option maxRecDepth 100000 in
theorem c_X1_closeBreaker (l : Launch) (D : va_G) (G : Nat → ClassId) (a i : Nat) (R : Nat → Int32) (H : Heap) (ha : va_at D vwCl (a, .inr (1, dF R i)) H) : Met l yX1_closeBreaker wsX1_closeBreaker ({ frames := 1, cells := 0, slots := 0, locals := 20 } : Room) (va_Pc [.ref a] (CX D G H)) (QV (fun q => q = a) (fun h => h.size = H.size ∧ va_at D vwCl (a, .inr (1, dF (rst (upd R (12 + 10 * i) 1) i) i)) h)) 0 0 (fun q => q = a) := by
  refine Met.ofW (cc := cX1_closeBreaker) (maxL := 1) (ret := none) (by decide) rfl ?_
  intro p e s m args below meth c s₁ B hml hv
  obtain ⟨rfl, rfl, hK, hN⟩ := hv
  have hx := B.exec
  have hb := B.bytes
  have hr := B.returns
  have hts := atoms_spec (ws := wsX1_closeBreaker) B.pre
  have hown : s.vm.findClass RX1 = some m.cls := findClass_of_methodNamed B.named
  have hlocks := B.notSynchronized
  have hF : CallFix p m c cX1_closeBreaker 1 s ([.ref a] : List Value).toArray wsX1_closeBreaker RX1 := ⟨hx, hb, hml, hown, hts⟩
  have hS : va_S (fun q => q = a) s.heap s.heap [] := va_S.rf
  have hl := lv_entry ([.ref a]) (n := 1) (Nat.le_of_ble_eq_true rfl)
  rw [lg_entry_eq]
  generalize (lg_sl ([.ref a]) ++ List.replicate (1 - (lg_sl ([.ref a])).length) Slot.unset).toArray = ls at hl ⊢
  have hl : lv_has ls 1 [(0, .ref a)] := hl
  refine lv_aload_n hx hb dX1_closeBreaker_0 rfl (lv_at hl 0 rfl) ?_
  refine lv_iconst (v := 1) hx hb dX1_closeBreaker_1 (by decide) ?_
  refine dp_put (A := fun q => q = a) (v := .int 1) hx hb hts (dp_hin 10 rfl) tyX1 tyX1_ok nmX1 hown hK ha rfl hS rfl 4 (by decide) (hts (.fieldLink RX1 23 "DroopBoard$Diesel" "closed" "Z") (List.mem_of_getElem? (i := 1) rfl)) rfl rfl rfl (Nat.le_of_ble_eq_true rfl) dX1_closeBreaker_2 (fun H1 locs hH1 hzH1 hkH1 hS => ?_)
  refine lv_aload_n hx hb dX1_closeBreaker_5 rfl (lv_at hl 0 rfl) ?_
  have hc9 : va_at D vwCl (a, .inr (1, dF (upd R (12 + 10 * i) 1) i)) H1 := by rw [show dF (upd R (12 + 10 * i) 1) i = [.int (R (8 + 10 * i)), .int (R (9 + 10 * i)), .int (R (10 + 10 * i)), .int (R (11 + 10 * i)), .int 1, .int (R (13 + 10 * i)), .int (R (14 + 10 * i)), .int (R (15 + 10 * i)), .int (R (16 + 10 * i)), .int (R (17 + 10 * i))] from by simp [dF, upd]]; exact hH1
  refine dp_Vv hF hK hN (c_X1_beginAnew l D G a i (upd R (12 + 10 * i) 1) _ hc9) (cwV 0 hts gX1_closeBreaker_X1_beginAnew rfl rfl rfl (by decide +kernel) ⟨Nat.le_of_ble_eq_true rfl, Nat.le_of_ble_eq_true rfl⟩) (dp_recv hK hc9 rfl) hS (fun _ h => h) [] rfl rfl hl.1 (Nat.le_of_ble_eq_true rfl) dX1_closeBreaker_6 ⟨Nat.le_of_ble_eq_true rfl, Nat.le_of_ble_eq_true rfl⟩ (fun H2 locs hp hzH2 hkH2 hS => ?_)
  obtain ⟨hz9, hc9⟩ := hp
  exact W.vret hx hb hr (fun t ht hW => ⟨⟨H2, rfl, ⟨(hz9.trans hzH1), hc9⟩, ht⟩, hS.F ht⟩) hS.2.2 dX1_closeBreaker_9

set_option maxHeartbeats 4000000 in
set_option maxRecDepth 100000 in
theorem c_X1_openBreaker (l : Launch) (D : va_G) (G : Nat → ClassId) (a i : Nat) (R : Nat → Int32) (H : Heap) (ha : va_at D vwCl (a, .inr (1, dF R i)) H) : Met l yX1_openBreaker wsX1_openBreaker ({ frames := 1, cells := 0, slots := 0, locals := 20 } : Room) (va_Pc [.ref a] (CX D G H)) (QV (fun q => q = a) (fun h => h.size = H.size ∧ va_at D vwCl (a, .inr (1, dF (rst (upd R (12 + 10 * i) 0) i) i)) h)) 0 0 (fun q => q = a) := by
  refine Met.ofW (cc := cX1_openBreaker) (maxL := 1) (ret := none) (by decide) rfl ?_
  intro p e s m args below meth c s₁ B hml hv
  obtain ⟨rfl, rfl, hK, hN⟩ := hv
  have hx := B.exec
  have hb := B.bytes
  have hr := B.returns
  have hts := atoms_spec (ws := wsX1_openBreaker) B.pre
  have hown : s.vm.findClass RX1 = some m.cls := findClass_of_methodNamed B.named
  have hlocks := B.notSynchronized
  have hF : CallFix p m c cX1_openBreaker 1 s ([.ref a] : List Value).toArray wsX1_openBreaker RX1 := ⟨hx, hb, hml, hown, hts⟩
  have hS : va_S (fun q => q = a) s.heap s.heap [] := va_S.rf
  have hl := lv_entry ([.ref a]) (n := 1) (Nat.le_of_ble_eq_true rfl)
  rw [lg_entry_eq]
  generalize (lg_sl ([.ref a]) ++ List.replicate (1 - (lg_sl ([.ref a])).length) Slot.unset).toArray = ls at hl ⊢
  have hl : lv_has ls 1 [(0, .ref a)] := hl
  refine lv_aload_n hx hb dX1_openBreaker_0 rfl (lv_at hl 0 rfl) ?_
  refine lv_iconst (v := 0) hx hb dX1_openBreaker_1 (by decide) ?_
  refine dp_put (A := fun q => q = a) (v := .int 0) hx hb hts (dp_hin 10 rfl) tyX1 tyX1_ok nmX1 hown hK ha rfl hS rfl 4 (by decide) (hts (.fieldLink RX1 23 "DroopBoard$Diesel" "closed" "Z") (List.mem_of_getElem? (i := 1) rfl)) rfl rfl rfl (Nat.le_of_ble_eq_true rfl) dX1_openBreaker_2 (fun H1 locs hH1 hzH1 hkH1 hS => ?_)
  refine lv_aload_n hx hb dX1_openBreaker_5 rfl (lv_at hl 0 rfl) ?_
  have hc9 : va_at D vwCl (a, .inr (1, dF (upd R (12 + 10 * i) 0) i)) H1 := by rw [show dF (upd R (12 + 10 * i) 0) i = [.int (R (8 + 10 * i)), .int (R (9 + 10 * i)), .int (R (10 + 10 * i)), .int (R (11 + 10 * i)), .int 0, .int (R (13 + 10 * i)), .int (R (14 + 10 * i)), .int (R (15 + 10 * i)), .int (R (16 + 10 * i)), .int (R (17 + 10 * i))] from by simp [dF, upd]]; exact hH1
  refine dp_Vv hF hK hN (c_X1_beginAnew l D G a i (upd R (12 + 10 * i) 0) _ hc9) (cwV 0 hts gX1_openBreaker_X1_beginAnew rfl rfl rfl (by decide +kernel) ⟨Nat.le_of_ble_eq_true rfl, Nat.le_of_ble_eq_true rfl⟩) (dp_recv hK hc9 rfl) hS (fun _ h => h) [] rfl rfl hl.1 (Nat.le_of_ble_eq_true rfl) dX1_openBreaker_6 ⟨Nat.le_of_ble_eq_true rfl, Nat.le_of_ble_eq_true rfl⟩ (fun H2 locs hp hzH2 hkH2 hS => ?_)
  obtain ⟨hz9, hc9⟩ := hp
  exact W.vret hx hb hr (fun t ht hW => ⟨⟨H2, rfl, ⟨(hz9.trans hzH1), hc9⟩, ht⟩, hS.F ht⟩) hS.2.2 dX1_openBreaker_9

set_option maxHeartbeats 4000000 in
set_option maxRecDepth 100000 in
theorem c_X1_copyFrom (l : Launch) (D : va_G) (G : Nat → ClassId) (a o i j : Nat) (R R2 : Nat → Int32) (H : Heap) (ha : va_at D vwCl (a, .inr (1, dF R i)) H) (ho : va_at D vwCl (o, .inr (1, dF R2 j)) H) (hne : o ≠ a) (hz1 : R2 (11 + 10 * j) = 0 ∨ R2 (11 + 10 * j) = 1) (hz2 : R2 (12 + 10 * j) = 0 ∨ R2 (12 + 10 * j) = 1) : Met l yX1_copyFrom wsX1_copyFrom ({ frames := 0, cells := 0, slots := 0, locals := 0 } : Room) (va_Pc [.ref a, .ref o] (CX D G H)) (QV (fun q => q = a) (fun h => h.size = H.size ∧ va_at D vwCl (a, .inr (1, dF R2 j)) h)) 0 0 (fun q => q = a) := by
  refine Met.ofW (cc := cX1_copyFrom) (maxL := 2) (ret := none) (by decide) rfl ?_
  intro p e s m args below meth c s₁ B hml hv
  obtain ⟨rfl, rfl, hK, hN⟩ := hv
  have hx := B.exec
  have hb := B.bytes
  have hr := B.returns
  have hts := atoms_spec (ws := wsX1_copyFrom) B.pre
  have hown : s.vm.findClass RX1 = some m.cls := findClass_of_methodNamed B.named
  have hlocks := B.notSynchronized
  have hF : CallFix p m c cX1_copyFrom 2 s ([.ref a, .ref o] : List Value).toArray wsX1_copyFrom RX1 := ⟨hx, hb, hml, hown, hts⟩
  have hS : va_S (fun q => q = a) s.heap s.heap [] := va_S.rf
  have hl := lv_entry ([.ref a, .ref o]) (n := 2) (Nat.le_of_ble_eq_true rfl)
  rw [lg_entry_eq]
  generalize (lg_sl ([.ref a, .ref o]) ++ List.replicate (2 - (lg_sl ([.ref a, .ref o])).length) Slot.unset).toArray = ls at hl ⊢
  have hl : lv_has ls 2 [(0, .ref a), (1, .ref o)] := hl
  refine lv_aload_n hx hb dX1_copyFrom_0 rfl (lv_at hl 0 rfl) ?_
  refine lv_aload_n hx hb dX1_copyFrom_1 rfl (lv_at hl 1 rfl) ?_
  refine dp_get hx hb hts (dp_hin 11 rfl) hown hK ho rfl 0 (by decide) (hts (.fieldLink RX1 16 "DroopBoard$Diesel" "rating" "I") (List.mem_of_getElem? (i := 1) rfl)) rfl dX1_copyFrom_2 ?_
  refine dp_put (A := fun q => q = a) (v := .int (R2 (8 + 10 * j))) hx hb hts (dp_hin 11 rfl) tyX1 tyX1_ok nmX1 hown hK ha rfl hS rfl 0 (by decide) (hts (.fieldLink RX1 16 "DroopBoard$Diesel" "rating" "I") (List.mem_of_getElem? (i := 1) rfl)) rfl rfl rfl (Nat.le_of_ble_eq_true rfl) dX1_copyFrom_5 (fun H1 locs hH1 hzH1 hkH1 hS => ?_)
  have ho := ho.kept (hkH1 _ hne)
  refine lv_aload_n hx hb dX1_copyFrom_8 rfl (lv_at hl 0 rfl) ?_
  refine lv_aload_n hx hb dX1_copyFrom_9 rfl (lv_at hl 1 rfl) ?_
  refine dp_get hx hb hts (dp_hin 11 rfl) hown hK ho rfl 1 (by decide) (hts (.fieldLink RX1 7 "DroopBoard$Diesel" "droop" "I") (List.mem_of_getElem? (i := 2) rfl)) rfl dX1_copyFrom_10 ?_
  refine dp_put (A := fun q => q = a) (v := .int (R2 (9 + 10 * j))) hx hb hts (dp_hin 11 rfl) tyX1 tyX1_ok nmX1 hown hK hH1 rfl hS rfl 1 (by decide) (hts (.fieldLink RX1 7 "DroopBoard$Diesel" "droop" "I") (List.mem_of_getElem? (i := 2) rfl)) rfl rfl rfl (Nat.le_of_ble_eq_true rfl) dX1_copyFrom_13 (fun H2 locs hH2 hzH2 hkH2 hS => ?_)
  have ho := ho.kept (hkH2 _ hne)
  refine lv_aload_n hx hb dX1_copyFrom_16 rfl (lv_at hl 0 rfl) ?_
  refine lv_aload_n hx hb dX1_copyFrom_17 rfl (lv_at hl 1 rfl) ?_
  refine dp_get hx hb hts (dp_hin 11 rfl) hown hK ho rfl 2 (by decide) (hts (.fieldLink RX1 13 "DroopBoard$Diesel" "speed" "I") (List.mem_of_getElem? (i := 3) rfl)) rfl dX1_copyFrom_18 ?_
  refine dp_put (A := fun q => q = a) (v := .int (R2 (10 + 10 * j))) hx hb hts (dp_hin 11 rfl) tyX1 tyX1_ok nmX1 hown hK hH2 rfl hS rfl 2 (by decide) (hts (.fieldLink RX1 13 "DroopBoard$Diesel" "speed" "I") (List.mem_of_getElem? (i := 3) rfl)) rfl rfl rfl (Nat.le_of_ble_eq_true rfl) dX1_copyFrom_21 (fun H3 locs hH3 hzH3 hkH3 hS => ?_)
  have ho := ho.kept (hkH3 _ hne)
  refine lv_aload_n hx hb dX1_copyFrom_24 rfl (lv_at hl 0 rfl) ?_
  refine lv_aload_n hx hb dX1_copyFrom_25 rfl (lv_at hl 1 rfl) ?_
  refine dp_get hx hb hts (dp_hin 11 rfl) hown hK ho rfl 3 (by decide) (hts (.fieldLink RX1 19 "DroopBoard$Diesel" "runs" "Z") (List.mem_of_getElem? (i := 4) rfl)) rfl dX1_copyFrom_26 ?_
  refine dp_put (A := fun q => q = a) (v := .int (R2 (11 + 10 * j))) hx hb hts (dp_hin 11 rfl) tyX1 tyX1_ok nmX1 hown hK hH3 rfl hS rfl 3 (by decide) (hts (.fieldLink RX1 19 "DroopBoard$Diesel" "runs" "Z") (List.mem_of_getElem? (i := 4) rfl)) rfl (nz_n hz1) (nz_f hz1) (Nat.le_of_ble_eq_true rfl) dX1_copyFrom_29 (fun H4 locs hH4 hzH4 hkH4 hS => ?_)
  have ho := ho.kept (hkH4 _ hne)
  refine lv_aload_n hx hb dX1_copyFrom_32 rfl (lv_at hl 0 rfl) ?_
  refine lv_aload_n hx hb dX1_copyFrom_33 rfl (lv_at hl 1 rfl) ?_
  refine dp_get hx hb hts (dp_hin 11 rfl) hown hK ho rfl 4 (by decide) (hts (.fieldLink RX1 23 "DroopBoard$Diesel" "closed" "Z") (List.mem_of_getElem? (i := 5) rfl)) rfl dX1_copyFrom_34 ?_
  refine dp_put (A := fun q => q = a) (v := .int (R2 (12 + 10 * j))) hx hb hts (dp_hin 11 rfl) tyX1 tyX1_ok nmX1 hown hK hH4 rfl hS rfl 4 (by decide) (hts (.fieldLink RX1 23 "DroopBoard$Diesel" "closed" "Z") (List.mem_of_getElem? (i := 5) rfl)) rfl (nz_n hz2) (nz_f hz2) (Nat.le_of_ble_eq_true rfl) dX1_copyFrom_37 (fun H5 locs hH5 hzH5 hkH5 hS => ?_)
  have ho := ho.kept (hkH5 _ hne)
  refine lv_aload_n hx hb dX1_copyFrom_40 rfl (lv_at hl 0 rfl) ?_
  refine lv_aload_n hx hb dX1_copyFrom_41 rfl (lv_at hl 1 rfl) ?_
  refine dp_get hx hb hts (dp_hin 11 rfl) hown hK ho rfl 5 (by decide) (hts (.fieldLink RX1 26 "DroopBoard$Diesel" "phase" "I") (List.mem_of_getElem? (i := 6) rfl)) rfl dX1_copyFrom_42 ?_
  refine dp_put (A := fun q => q = a) (v := .int (R2 (13 + 10 * j))) hx hb hts (dp_hin 11 rfl) tyX1 tyX1_ok nmX1 hown hK hH5 rfl hS rfl 5 (by decide) (hts (.fieldLink RX1 26 "DroopBoard$Diesel" "phase" "I") (List.mem_of_getElem? (i := 6) rfl)) rfl rfl rfl (Nat.le_of_ble_eq_true rfl) dX1_copyFrom_45 (fun H6 locs hH6 hzH6 hkH6 hS => ?_)
  have ho := ho.kept (hkH6 _ hne)
  refine lv_aload_n hx hb dX1_copyFrom_48 rfl (lv_at hl 0 rfl) ?_
  refine lv_aload_n hx hb dX1_copyFrom_49 rfl (lv_at hl 1 rfl) ?_
  refine dp_get hx hb hts (dp_hin 11 rfl) hown hK ho rfl 6 (by decide) (hts (.fieldLink RX1 29 "DroopBoard$Diesel" "overloaded" "I") (List.mem_of_getElem? (i := 7) rfl)) rfl dX1_copyFrom_50 ?_
  refine dp_put (A := fun q => q = a) (v := .int (R2 (14 + 10 * j))) hx hb hts (dp_hin 11 rfl) tyX1 tyX1_ok nmX1 hown hK hH6 rfl hS rfl 6 (by decide) (hts (.fieldLink RX1 29 "DroopBoard$Diesel" "overloaded" "I") (List.mem_of_getElem? (i := 7) rfl)) rfl rfl rfl (Nat.le_of_ble_eq_true rfl) dX1_copyFrom_53 (fun H7 locs hH7 hzH7 hkH7 hS => ?_)
  have ho := ho.kept (hkH7 _ hne)
  refine lv_aload_n hx hb dX1_copyFrom_56 rfl (lv_at hl 0 rfl) ?_
  refine lv_aload_n hx hb dX1_copyFrom_57 rfl (lv_at hl 1 rfl) ?_
  refine dp_get hx hb hts (dp_hin 11 rfl) hown hK ho rfl 7 (by decide) (hts (.fieldLink RX1 32 "DroopBoard$Diesel" "driven" "I") (List.mem_of_getElem? (i := 8) rfl)) rfl dX1_copyFrom_58 ?_
  refine dp_put (A := fun q => q = a) (v := .int (R2 (15 + 10 * j))) hx hb hts (dp_hin 11 rfl) tyX1 tyX1_ok nmX1 hown hK hH7 rfl hS rfl 7 (by decide) (hts (.fieldLink RX1 32 "DroopBoard$Diesel" "driven" "I") (List.mem_of_getElem? (i := 8) rfl)) rfl rfl rfl (Nat.le_of_ble_eq_true rfl) dX1_copyFrom_61 (fun H8 locs hH8 hzH8 hkH8 hS => ?_)
  have ho := ho.kept (hkH8 _ hne)
  refine lv_aload_n hx hb dX1_copyFrom_64 rfl (lv_at hl 0 rfl) ?_
  refine lv_aload_n hx hb dX1_copyFrom_65 rfl (lv_at hl 1 rfl) ?_
  refine dp_get hx hb hts (dp_hin 11 rfl) hown hK ho rfl 8 (by decide) (hts (.fieldLink RX1 35 "DroopBoard$Diesel" "energy" "I") (List.mem_of_getElem? (i := 9) rfl)) rfl dX1_copyFrom_66 ?_
  refine dp_put (A := fun q => q = a) (v := .int (R2 (16 + 10 * j))) hx hb hts (dp_hin 11 rfl) tyX1 tyX1_ok nmX1 hown hK hH8 rfl hS rfl 8 (by decide) (hts (.fieldLink RX1 35 "DroopBoard$Diesel" "energy" "I") (List.mem_of_getElem? (i := 9) rfl)) rfl rfl rfl (Nat.le_of_ble_eq_true rfl) dX1_copyFrom_69 (fun H9 locs hH9 hzH9 hkH9 hS => ?_)
  have ho := ho.kept (hkH9 _ hne)
  refine lv_aload_n hx hb dX1_copyFrom_72 rfl (lv_at hl 0 rfl) ?_
  refine lv_aload_n hx hb dX1_copyFrom_73 rfl (lv_at hl 1 rfl) ?_
  refine dp_get hx hb hts (dp_hin 11 rfl) hown hK ho rfl 9 (by decide) (hts (.fieldLink RX1 38 "DroopBoard$Diesel" "trips" "I") (List.mem_of_getElem? (i := 10) rfl)) rfl dX1_copyFrom_74 ?_
  refine dp_put (A := fun q => q = a) (v := .int (R2 (17 + 10 * j))) hx hb hts (dp_hin 11 rfl) tyX1 tyX1_ok nmX1 hown hK hH9 rfl hS rfl 9 (by decide) (hts (.fieldLink RX1 38 "DroopBoard$Diesel" "trips" "I") (List.mem_of_getElem? (i := 10) rfl)) rfl rfl rfl (Nat.le_of_ble_eq_true rfl) dX1_copyFrom_77 (fun H10 locs hH10 hzH10 hkH10 hS => ?_)
  have ho := ho.kept (hkH10 _ hne)
  exact W.vret hx hb hr (fun t ht hW => ⟨⟨H10, rfl, ⟨(hzH10.trans (hzH9.trans (hzH8.trans (hzH7.trans (hzH6.trans (hzH5.trans (hzH4.trans (hzH3.trans (hzH2.trans hzH1))))))))), hH10⟩, ht⟩, hS.F ht⟩) hS.2.2 dX1_copyFrom_80

set_option maxHeartbeats 4000000 in
set_option maxRecDepth 100000 in
theorem c_X1_tick (l : Launch) (D : va_G) (G : Nat → ClassId) (a i : Nat) (R : Nat → Int32) (w f : Int32) (H : Heap) (ha : va_at D vwCl (a, .inr (1, dF R i)) H) : Met l yX1_tick wsX1_tick ({ frames := 1, cells := 0, slots := 0, locals := 22 } : Room) (va_Pc [.ref a, .int w, .int f] (CX D G H)) (QV (fun q => q = a) (fun h => h.size = H.size ∧ va_at D vwCl (a, .inr (1, dF (dtk R i w f) i)) h)) 0 0 (fun q => q = a) := by
  refine Met.ofW (cc := cX1_tick) (maxL := 3) (ret := none) (by decide) rfl ?_
  intro p e s m args below meth c s₁ B hml hv
  obtain ⟨rfl, rfl, hK, hN⟩ := hv
  have hx := B.exec
  have hb := B.bytes
  have hr := B.returns
  have hts := atoms_spec (ws := wsX1_tick) B.pre
  have hown : s.vm.findClass RX1 = some m.cls := findClass_of_methodNamed B.named
  have hlocks := B.notSynchronized
  have hF : CallFix p m c cX1_tick 3 s ([.ref a, .int w, .int f] : List Value).toArray wsX1_tick RX1 := ⟨hx, hb, hml, hown, hts⟩
  have hS : va_S (fun q => q = a) s.heap s.heap [] := va_S.rf
  have hl := lv_entry ([.ref a, .int w, .int f]) (n := 3) (Nat.le_of_ble_eq_true rfl)
  rw [lg_entry_eq]
  generalize (lg_sl ([.ref a, .int w, .int f]) ++ List.replicate (3 - (lg_sl ([.ref a, .int w, .int f])).length) Slot.unset).toArray = ls at hl ⊢
  have hl : lv_has ls 3 [(0, .ref a), (1, .int w), (2, .int f)] := hl
  refine lv_aload_n hx hb dX1_tick_0 rfl (lv_at hl 0 rfl) ?_
  refine lv_dup hx hb dX1_tick_1 rfl ?_
  refine dp_get hx hb hts (dp_hin 13 rfl) hown hK ha rfl 8 (by decide) (hts (.fieldLink RX1 35 "DroopBoard$Diesel" "energy" "I") (List.mem_of_getElem? (i := 1) rfl)) rfl dX1_tick_2 ?_
  refine lv_iload_n hx hb dX1_tick_5 rfl (lv_at hl 1 rfl) ?_
  refine lv_iadd hx hb dX1_tick_6 ?_
  refine dp_put (A := fun q => q = a) (v := .int ((R (16 + 10 * i)) + w)) hx hb hts (dp_hin 13 rfl) tyX1 tyX1_ok nmX1 hown hK ha rfl hS rfl 8 (by decide) (hts (.fieldLink RX1 35 "DroopBoard$Diesel" "energy" "I") (List.mem_of_getElem? (i := 1) rfl)) rfl rfl rfl (Nat.le_of_ble_eq_true rfl) dX1_tick_7 (fun H1 locs hH1 hzH1 hkH1 hS => ?_)
  refine lv_aload_n hx hb dX1_tick_10 rfl (lv_at hl 0 rfl) ?_
  refine dp_get hx hb hts (dp_hin 13 rfl) hown hK hH1 rfl 4 (by decide) (hts (.fieldLink RX1 23 "DroopBoard$Diesel" "closed" "Z") (List.mem_of_getElem? (i := 2) rfl)) rfl dX1_tick_11 ?_
  refine lv_if_eq (tgt := 76) hx hb dX1_tick_14 (by decide) (fun c1 => ?_) (fun c1 => ?_)
  · refine lv_aload_n hx hb dX1_tick_76 rfl (lv_at hl 0 rfl) ?_
    refine dp_get hx hb hts (dp_hin 13 rfl) hown hK hH1 rfl 3 (by decide) (hts (.fieldLink RX1 19 "DroopBoard$Diesel" "runs" "Z") (List.mem_of_getElem? (i := 6) rfl)) rfl dX1_tick_77 ?_
    refine lv_if_eq (tgt := 108) hx hb dX1_tick_80 (by decide) (fun c2 => ?_) (fun c2 => ?_)
    · exact W.vret hx hb hr (fun t ht hW => ⟨⟨H1, rfl, ⟨hzH1, by rw [show dF (dtk R i w f) i = [.int (R (8 + 10 * i)), .int (R (9 + 10 * i)), .int (R (10 + 10 * i)), .int (R (11 + 10 * i)), .int (R (12 + 10 * i)), .int (R (13 + 10 * i)), .int (R (14 + 10 * i)), .int (R (15 + 10 * i)), .int ((R (16 + 10 * i)) + w), .int (R (17 + 10 * i))] from by simp [dF, upd, dtk, c1, c2]]; exact hH1⟩, ht⟩, hS.F ht⟩) hS.2.2 dX1_tick_108
    refine lv_iload_n hx hb dX1_tick_83 rfl (lv_at hl 2 rfl) ?_
    refine lv_if_le (tgt := 108) hx hb dX1_tick_84 (by decide) (fun c3 => ?_) (fun c3 => ?_)
    · exact W.vret hx hb hr (fun t ht hW => ⟨⟨H1, rfl, ⟨hzH1, by rw [show dF (dtk R i w f) i = [.int (R (8 + 10 * i)), .int (R (9 + 10 * i)), .int (R (10 + 10 * i)), .int (R (11 + 10 * i)), .int (R (12 + 10 * i)), .int (R (13 + 10 * i)), .int (R (14 + 10 * i)), .int (R (15 + 10 * i)), .int ((R (16 + 10 * i)) + w), .int (R (17 + 10 * i))] from by simp [dF, upd, dtk, c1, c2, c3]]; exact hH1⟩, ht⟩, hS.F ht⟩) hS.2.2 dX1_tick_108
    refine lv_aload_n hx hb dX1_tick_87 rfl (lv_at hl 0 rfl) ?_
    refine lv_aload_n hx hb dX1_tick_88 rfl (lv_at hl 0 rfl) ?_
    refine dp_get hx hb hts (dp_hin 13 rfl) hown hK hH1 rfl 5 (by decide) (hts (.fieldLink RX1 26 "DroopBoard$Diesel" "phase" "I") (List.mem_of_getElem? (i := 7) rfl)) rfl dX1_tick_89 ?_
    refine lv_aload_n hx hb dX1_tick_92 rfl (lv_at hl 0 rfl) ?_
    refine dp_get hx hb hts (dp_hin 13 rfl) hown hK hH1 rfl 2 (by decide) (hts (.fieldLink RX1 13 "DroopBoard$Diesel" "speed" "I") (List.mem_of_getElem? (i := 8) rfl)) rfl dX1_tick_93 ?_
    refine lv_iadd hx hb dX1_tick_96 ?_
    refine lv_iload_n hx hb dX1_tick_97 rfl (lv_at hl 2 rfl) ?_
    refine lv_isub hx hb dX1_tick_98 ?_
    refine lv_sipush (v := 1000) hx hb dX1_tick_99 (by decide) ?_
    refine dp_Si hF hK hN (c_J9_floorMod_7cf53 l D G (((R (13 + 10 * i)) + (R (10 + 10 * i))) - f) 1000 _ (by decide)) (va_cwS 2 hts gX1_tick_J9_floorMod_7cf53 rfl rfl rfl (by decide +kernel) ⟨Nat.le_of_ble_eq_true rfl, Nat.le_of_ble_eq_true rfl⟩) hS nA_i [.ref a] rfl rfl hl.1 (Nat.le_of_ble_eq_true rfl) dX1_tick_102 ⟨Nat.le_of_ble_eq_true rfl, Nat.le_of_ble_eq_true rfl⟩ (fun rH2 H2 locs hp hzH2 hkH2 hS => ?_)
    obtain ⟨rfl, rfl⟩ := hp
    refine dp_put (A := fun q => q = a) (v := .int (fmd (((R (13 + 10 * i)) + (R (10 + 10 * i))) - f) 1000)) hx hb hts (dp_hin 13 rfl) tyX1 tyX1_ok nmX1 hown hK hH1 rfl hS rfl 5 (by decide) (hts (.fieldLink RX1 26 "DroopBoard$Diesel" "phase" "I") (List.mem_of_getElem? (i := 7) rfl)) rfl rfl rfl (Nat.le_of_ble_eq_true rfl) dX1_tick_105 (fun H3 locs hH3 hzH3 hkH3 hS => ?_)
    exact W.vret hx hb hr (fun t ht hW => ⟨⟨H3, rfl, ⟨(hzH3.trans hzH1), by rw [show dF (dtk R i w f) i = [.int (R (8 + 10 * i)), .int (R (9 + 10 * i)), .int (R (10 + 10 * i)), .int (R (11 + 10 * i)), .int (R (12 + 10 * i)), .int (fmd (((R (13 + 10 * i)) + (R (10 + 10 * i))) - f) 1000), .int (R (14 + 10 * i)), .int (R (15 + 10 * i)), .int ((R (16 + 10 * i)) + w), .int (R (17 + 10 * i))] from by simp [dF, upd, dtk, c1, c2, c3]]; exact hH3⟩, ht⟩, hS.F ht⟩) hS.2.2 dX1_tick_108
  refine lv_aload_n hx hb dX1_tick_17 rfl (lv_at hl 0 rfl) ?_
  refine lv_iload_n hx hb dX1_tick_18 rfl (lv_at hl 1 rfl) ?_
  refine lv_aload_n hx hb dX1_tick_19 rfl (lv_at hl 0 rfl) ?_
  refine dp_get hx hb hts (dp_hin 13 rfl) hown hK hH1 rfl 0 (by decide) (hts (.fieldLink RX1 16 "DroopBoard$Diesel" "rating" "I") (List.mem_of_getElem? (i := 3) rfl)) rfl dX1_tick_20 ?_
  refine lv_aload_n hx hb dX1_tick_23 rfl (lv_at hl 0 rfl) ?_
  refine dp_get hx hb hts (dp_hin 13 rfl) hown hK hH1 rfl 0 (by decide) (hts (.fieldLink RX1 16 "DroopBoard$Diesel" "rating" "I") (List.mem_of_getElem? (i := 3) rfl)) rfl dX1_tick_24 ?_
  refine lv_bipush (v := 10) hx hb dX1_tick_27 (by decide) ?_
  refine lv_idiv hx hb dX1_tick_29 (by decide) ?_
  refine lv_iadd hx hb dX1_tick_30 ?_
  refine lv_icmp_le (tgt := 43) hx hb dX1_tick_31 (by decide) (fun c4 => ?_) (fun c4 => ?_)
  · refine lv_iconst (v := 0) hx hb dX1_tick_43 (by decide) ?_
    refine dp_put (A := fun q => q = a) (v := .int 0) hx hb hts (dp_hin 13 rfl) tyX1 tyX1_ok nmX1 hown hK hH1 rfl hS rfl 6 (by decide) (hts (.fieldLink RX1 29 "DroopBoard$Diesel" "overloaded" "I") (List.mem_of_getElem? (i := 4) rfl)) rfl rfl rfl (Nat.le_of_ble_eq_true rfl) dX1_tick_44 (fun H4 locs hH4 hzH4 hkH4 hS => ?_)
    refine lv_aload_n hx hb dX1_tick_47 rfl (lv_at hl 0 rfl) ?_
    refine lv_iload_n hx hb dX1_tick_48 rfl (lv_at hl 1 rfl) ?_
    refine lv_aload_n hx hb dX1_tick_49 rfl (lv_at hl 0 rfl) ?_
    refine dp_get hx hb hts (dp_hin 13 rfl) hown hK hH4 rfl 0 (by decide) (hts (.fieldLink RX1 16 "DroopBoard$Diesel" "rating" "I") (List.mem_of_getElem? (i := 3) rfl)) rfl dX1_tick_50 ?_
    refine lv_bipush (v := 20) hx hb dX1_tick_53 (by decide) ?_
    refine lv_idiv hx hb dX1_tick_55 (by decide) ?_
    refine lv_ineg hx hb dX1_tick_56 ?_
    refine lv_icmp_ge (tgt := 69) hx hb dX1_tick_57 (by decide) (fun c5 => ?_) (fun c5 => ?_)
    · refine lv_iconst (v := 0) hx hb dX1_tick_69 (by decide) ?_
      refine dp_put (A := fun q => q = a) (v := .int 0) hx hb hts (dp_hin 13 rfl) tyX1 tyX1_ok nmX1 hown hK hH4 rfl hS rfl 7 (by decide) (hts (.fieldLink RX1 32 "DroopBoard$Diesel" "driven" "I") (List.mem_of_getElem? (i := 5) rfl)) rfl rfl rfl (Nat.le_of_ble_eq_true rfl) dX1_tick_70 (fun H5 locs hH5 hzH5 hkH5 hS => ?_)
      refine lv_goto (tgt := 108) hx hb dX1_tick_73 (by decide) ?_
      exact W.vret hx hb hr (fun t ht hW => ⟨⟨H5, rfl, ⟨(hzH5.trans (hzH4.trans hzH1)), by rw [show dF (dtk R i w f) i = [.int (R (8 + 10 * i)), .int (R (9 + 10 * i)), .int (R (10 + 10 * i)), .int (R (11 + 10 * i)), .int (R (12 + 10 * i)), .int (R (13 + 10 * i)), .int 0, .int 0, .int ((R (16 + 10 * i)) + w), .int (R (17 + 10 * i))] from by simp [dF, upd, dtk, c1, c4, c5]]; exact hH5⟩, ht⟩, hS.F ht⟩) hS.2.2 dX1_tick_108
    refine lv_aload_n hx hb dX1_tick_60 rfl (lv_at hl 0 rfl) ?_
    refine dp_get hx hb hts (dp_hin 13 rfl) hown hK hH4 rfl 7 (by decide) (hts (.fieldLink RX1 32 "DroopBoard$Diesel" "driven" "I") (List.mem_of_getElem? (i := 5) rfl)) rfl dX1_tick_61 ?_
    refine lv_iconst (v := 1) hx hb dX1_tick_64 (by decide) ?_
    refine lv_iadd hx hb dX1_tick_65 ?_
    refine lv_goto (tgt := 70) hx hb dX1_tick_66 (by decide) ?_
    refine dp_put (A := fun q => q = a) (v := .int ((R (15 + 10 * i)) + 1)) hx hb hts (dp_hin 13 rfl) tyX1 tyX1_ok nmX1 hown hK hH4 rfl hS rfl 7 (by decide) (hts (.fieldLink RX1 32 "DroopBoard$Diesel" "driven" "I") (List.mem_of_getElem? (i := 5) rfl)) rfl rfl rfl (Nat.le_of_ble_eq_true rfl) dX1_tick_70 (fun H6 locs hH6 hzH6 hkH6 hS => ?_)
    refine lv_goto (tgt := 108) hx hb dX1_tick_73 (by decide) ?_
    exact W.vret hx hb hr (fun t ht hW => ⟨⟨H6, rfl, ⟨(hzH6.trans (hzH4.trans hzH1)), by rw [show dF (dtk R i w f) i = [.int (R (8 + 10 * i)), .int (R (9 + 10 * i)), .int (R (10 + 10 * i)), .int (R (11 + 10 * i)), .int (R (12 + 10 * i)), .int (R (13 + 10 * i)), .int 0, .int ((R (15 + 10 * i)) + 1), .int ((R (16 + 10 * i)) + w), .int (R (17 + 10 * i))] from by simp [dF, upd, dtk, c1, c4, c5]]; exact hH6⟩, ht⟩, hS.F ht⟩) hS.2.2 dX1_tick_108
  refine lv_aload_n hx hb dX1_tick_34 rfl (lv_at hl 0 rfl) ?_
  refine dp_get hx hb hts (dp_hin 13 rfl) hown hK hH1 rfl 6 (by decide) (hts (.fieldLink RX1 29 "DroopBoard$Diesel" "overloaded" "I") (List.mem_of_getElem? (i := 4) rfl)) rfl dX1_tick_35 ?_
  refine lv_iconst (v := 1) hx hb dX1_tick_38 (by decide) ?_
  refine lv_iadd hx hb dX1_tick_39 ?_
  refine lv_goto (tgt := 44) hx hb dX1_tick_40 (by decide) ?_
  refine dp_put (A := fun q => q = a) (v := .int ((R (14 + 10 * i)) + 1)) hx hb hts (dp_hin 13 rfl) tyX1 tyX1_ok nmX1 hown hK hH1 rfl hS rfl 6 (by decide) (hts (.fieldLink RX1 29 "DroopBoard$Diesel" "overloaded" "I") (List.mem_of_getElem? (i := 4) rfl)) rfl rfl rfl (Nat.le_of_ble_eq_true rfl) dX1_tick_44 (fun H7 locs hH7 hzH7 hkH7 hS => ?_)
  refine lv_aload_n hx hb dX1_tick_47 rfl (lv_at hl 0 rfl) ?_
  refine lv_iload_n hx hb dX1_tick_48 rfl (lv_at hl 1 rfl) ?_
  refine lv_aload_n hx hb dX1_tick_49 rfl (lv_at hl 0 rfl) ?_
  refine dp_get hx hb hts (dp_hin 13 rfl) hown hK hH7 rfl 0 (by decide) (hts (.fieldLink RX1 16 "DroopBoard$Diesel" "rating" "I") (List.mem_of_getElem? (i := 3) rfl)) rfl dX1_tick_50 ?_
  refine lv_bipush (v := 20) hx hb dX1_tick_53 (by decide) ?_
  refine lv_idiv hx hb dX1_tick_55 (by decide) ?_
  refine lv_ineg hx hb dX1_tick_56 ?_
  refine lv_icmp_ge (tgt := 69) hx hb dX1_tick_57 (by decide) (fun c6 => ?_) (fun c6 => ?_)
  · refine lv_iconst (v := 0) hx hb dX1_tick_69 (by decide) ?_
    refine dp_put (A := fun q => q = a) (v := .int 0) hx hb hts (dp_hin 13 rfl) tyX1 tyX1_ok nmX1 hown hK hH7 rfl hS rfl 7 (by decide) (hts (.fieldLink RX1 32 "DroopBoard$Diesel" "driven" "I") (List.mem_of_getElem? (i := 5) rfl)) rfl rfl rfl (Nat.le_of_ble_eq_true rfl) dX1_tick_70 (fun H8 locs hH8 hzH8 hkH8 hS => ?_)
    refine lv_goto (tgt := 108) hx hb dX1_tick_73 (by decide) ?_
    exact W.vret hx hb hr (fun t ht hW => ⟨⟨H8, rfl, ⟨(hzH8.trans (hzH7.trans hzH1)), by rw [show dF (dtk R i w f) i = [.int (R (8 + 10 * i)), .int (R (9 + 10 * i)), .int (R (10 + 10 * i)), .int (R (11 + 10 * i)), .int (R (12 + 10 * i)), .int (R (13 + 10 * i)), .int ((R (14 + 10 * i)) + 1), .int 0, .int ((R (16 + 10 * i)) + w), .int (R (17 + 10 * i))] from by simp [dF, upd, dtk, c1, c4, c6]]; exact hH8⟩, ht⟩, hS.F ht⟩) hS.2.2 dX1_tick_108
  refine lv_aload_n hx hb dX1_tick_60 rfl (lv_at hl 0 rfl) ?_
  refine dp_get hx hb hts (dp_hin 13 rfl) hown hK hH7 rfl 7 (by decide) (hts (.fieldLink RX1 32 "DroopBoard$Diesel" "driven" "I") (List.mem_of_getElem? (i := 5) rfl)) rfl dX1_tick_61 ?_
  refine lv_iconst (v := 1) hx hb dX1_tick_64 (by decide) ?_
  refine lv_iadd hx hb dX1_tick_65 ?_
  refine lv_goto (tgt := 70) hx hb dX1_tick_66 (by decide) ?_
  refine dp_put (A := fun q => q = a) (v := .int ((R (15 + 10 * i)) + 1)) hx hb hts (dp_hin 13 rfl) tyX1 tyX1_ok nmX1 hown hK hH7 rfl hS rfl 7 (by decide) (hts (.fieldLink RX1 32 "DroopBoard$Diesel" "driven" "I") (List.mem_of_getElem? (i := 5) rfl)) rfl rfl rfl (Nat.le_of_ble_eq_true rfl) dX1_tick_70 (fun H9 locs hH9 hzH9 hkH9 hS => ?_)
  refine lv_goto (tgt := 108) hx hb dX1_tick_73 (by decide) ?_
  exact W.vret hx hb hr (fun t ht hW => ⟨⟨H9, rfl, ⟨(hzH9.trans (hzH7.trans hzH1)), by rw [show dF (dtk R i w f) i = [.int (R (8 + 10 * i)), .int (R (9 + 10 * i)), .int (R (10 + 10 * i)), .int (R (11 + 10 * i)), .int (R (12 + 10 * i)), .int (R (13 + 10 * i)), .int ((R (14 + 10 * i)) + 1), .int ((R (15 + 10 * i)) + 1), .int ((R (16 + 10 * i)) + w), .int (R (17 + 10 * i))] from by simp [dF, upd, dtk, c1, c4, c6]]; exact hH9⟩, ht⟩, hS.F ht⟩) hS.2.2 dX1_tick_108
end
section
theorem alv_1 {R : Nat → Int32} {i : Nat} (hi : i < 3) (h : ¬ R (12 + 10 * i) = 0) : (1 : Int32) = alv R := by
  unfold alv
  rw [if_neg]
  rintro ⟨a, b, c⟩
  match i, hi with
  | 0, _ => exact h a
  | 1, _ => exact h b
  | 2, _ => exact h c
theorem lw_i {R : Nat → Int32} {i : Nat} (hi : i < 3) (hz : ∀ j, j < i → R (12 + 10 * j) = 0) (h : ¬ R (12 + 10 * i) = 0) : nI i = lw R := by
  match i, hi with
  | 0, _ => 
    have h' : ¬ R 12 = 0 := h
    simp only [lw]; rw [if_pos h']; rfl
  | 1, _ => 
    have h' : ¬ R 22 = 0 := h
    have h0 : R 12 = 0 := hz 0 (by omega)
    simp only [lw]; rw [if_neg (by simp [h0]), if_pos h']; rfl
  | 2, _ => 
    have h' : ¬ R 32 = 0 := h
    have h0 : R 12 = 0 := hz 0 (by omega)
    have h1 : R 22 = 0 := hz 1 (by omega)
    simp only [lw]; rw [if_neg (by simp [h0]), if_neg (by simp [h1]), if_pos h']; rfl
theorem half_eq {lo hi mid : Nat} (h : lo + hi ≤ 1200) (hm : mid = (lo + hi + 1) / 2) : (nI (4700 + lo) + nI (4700 + hi) + 1) / 2 = nI (4700 + mid) := by
  rw [nI_add, nI_1, show (2 : Int32) = nI 2 from rfl, pk_div (by omega) (by omega) (by omega)]
  congr 1
  omega
theorem fd_pred {k : Nat} (h : 0 < k) : nI (4700 + k) - 1 = nI (4700 + (k - 1)) := by
  rw [show 4700 + k = (4700 + (k - 1)) + 1 by omega, nI_pred]
theorem fd_dec {k : Nat} (h : 0 < k) : nI (4700 + k) + Int32.ofInt (-1) = nI (4700 + (k - 1)) := by
  rw [show 4700 + k = (4700 + (k - 1)) + 1 by omega]
  exact nI_dec _
theorem fok_t {R : Nat → Int32} {k : Nat} (h : ¬ tot R (nI (4700 + k)) < ld R) : fok R k = true := by
  simp only [fok, decide_eq_true_eq]
  exact Int32.not_lt.mp h
theorem fok_f {R : Nat → Int32} {k : Nat} (h : tot R (nI (4700 + k)) < ld R) : fok R k = false := by
  simp only [fok, decide_eq_false_iff_not]
  exact Int32.not_le.mpr h
theorem fok_n {R : Nat → Int32} (hm : ∀ j k, j ≤ k → k ≤ 600 → fok R k = true → fok R j = true) {j k : Nat} (h : j ≤ k) (hk : k ≤ 600) (hf : fok R j = false) : fok R k = false := by
  cases e : fok R k with
  | false => rfl
  | true => rw [hm j k h hk e] at hf; cases hf
theorem hv_hw {a b n : Nat} (hw : a < 2 ^ (n + 1)) (h : 2 * b ≤ a) : b < 2 ^ n := by
  rw [Nat.pow_succ] at hw
  omega
theorem fsb_eq {ok : Nat → Bool} : ∀ {N m : Nat}, m ≤ N → (m = 0 ∨ ok m = true) → (∀ k, m < k → k ≤ N → ok k = false) → fsb ok N = m
  | 0, m, hm, _, _ => by
    have : m = 0 := by omega
    rw [this]; rfl
  | N + 1, m, hm, h0, h1 => by
    rcases Nat.lt_or_ge m (N + 1) with q | q
    · rw [fsb, h1 (N + 1) q (Nat.le_refl _)]
      simp only [Bool.false_eq_true, if_false]
      exact fsb_eq (by omega) h0 (fun k a b => h1 k a (by omega))
    · have e : m = N + 1 := by omega
      subst e
      rcases h0 with h0 | h0
      · cases h0
      · rw [fsb, if_pos h0]
theorem fsb_dn {ok : Nat → Bool} {k : Nat} (h : 0 < k) (hf : ok k = false) : fsb ok k = fsb ok (k - 1) := by
  obtain ⟨j, rfl⟩ : ∃ j, k = j + 1 := ⟨k - 1, by omega⟩
  rw [fsb, hf]
  simp
theorem fsb_at {ok : Nat → Bool} {k : Nat} (h : 0 < k) (hf : ok k = true) : fsb ok k = k := by
  obtain ⟨j, rfl⟩ : ∃ j, k = j + 1 := ⟨k - 1, by omega⟩
  rw [fsb, if_pos hf]
theorem fq_of {R : Nat → Int32} (h : ¬ alv R = 0) {k : Nat} (hk : fsb (fok R) 600 = k) : nI (4700 + k) = fq R := by
  unfold fq
  rw [if_neg h, hk]
end
section
set_option maxRecDepth 100000 in
theorem ggX0_init_X1_init : GoodIn wsX0_init wsX1_init := goodIn_r _ [16, 17, 2, 3, 18, 19, 20, 30, 31, 32, 33, 34, 35, 36, 37, 38, 39] rfl (by decide +kernel)
set_option maxRecDepth 100000 in
theorem gX0_init_X1_init : GoodIn wsX0_init (wsX1_init) := ggX0_init_X1_init
set_option maxRecDepth 100000 in
theorem ggX0_init_X2_init : GoodIn wsX0_init wsX2_init := goodIn_r _ [22, 23, 2, 3, 24, 40, 41, 42] rfl (by decide +kernel)
set_option maxRecDepth 100000 in
theorem gX0_init_X2_init_n30 : GoodIn wsX0_init (wsX2_init) := ggX0_init_X2_init
theorem dX0_init_0 : decode cX0_init 0 = .ok (.aload_n 0, 1) := by decide +kernel
theorem dX0_init_1 : decode cX0_init 1 = .ok (.invokespecial 3, 3) := by decide +kernel
theorem dX0_init_4 : decode cX0_init 4 = .ok (.aload_n 0, 1) := by decide +kernel
theorem dX0_init_5 : decode cX0_init 5 = .ok (.iconst 3, 1) := by decide +kernel
theorem dX0_init_6 : decode cX0_init 6 = .ok (.anewarray 9, 3) := by decide +kernel
theorem dX0_init_9 : decode cX0_init 9 = .ok (.putfield 11, 3) := by decide +kernel
theorem dX0_init_12 : decode cX0_init 12 = .ok (.aload_n 0, 1) := by decide +kernel
theorem dX0_init_13 : decode cX0_init 13 = .ok (.iconst 4, 1) := by decide +kernel
theorem dX0_init_14 : decode cX0_init 14 = .ok (.anewarray 17, 3) := by decide +kernel
theorem dX0_init_17 : decode cX0_init 17 = .ok (.putfield 19, 3) := by decide +kernel
theorem dX0_init_20 : decode cX0_init 20 = .ok (.aload_n 0, 1) := by decide +kernel
theorem dX0_init_21 : decode cX0_init 21 = .ok (.iconst 4, 1) := by decide +kernel
theorem dX0_init_22 : decode cX0_init 22 = .ok (.newarray .int, 2) := by decide +kernel
theorem dX0_init_24 : decode cX0_init 24 = .ok (.dup, 1) := by decide +kernel
theorem dX0_init_25 : decode cX0_init 25 = .ok (.iconst 0, 1) := by decide +kernel
theorem dX0_init_26 : decode cX0_init 26 = .ok (.iconst 3, 1) := by decide +kernel
theorem dX0_init_27 : decode cX0_init 27 = .ok (.iastore, 1) := by decide +kernel
theorem dX0_init_28 : decode cX0_init 28 = .ok (.dup, 1) := by decide +kernel
theorem dX0_init_29 : decode cX0_init 29 = .ok (.iconst 1, 1) := by decide +kernel
theorem dX0_init_30 : decode cX0_init 30 = .ok (.iconst 2, 1) := by decide +kernel
theorem dX0_init_31 : decode cX0_init 31 = .ok (.iastore, 1) := by decide +kernel
theorem dX0_init_32 : decode cX0_init 32 = .ok (.dup, 1) := by decide +kernel
theorem dX0_init_33 : decode cX0_init 33 = .ok (.iconst 2, 1) := by decide +kernel
theorem dX0_init_34 : decode cX0_init 34 = .ok (.bipush 10, 2) := by decide +kernel
theorem dX0_init_36 : decode cX0_init 36 = .ok (.iastore, 1) := by decide +kernel
theorem dX0_init_37 : decode cX0_init 37 = .ok (.dup, 1) := by decide +kernel
theorem dX0_init_38 : decode cX0_init 38 = .ok (.iconst 3, 1) := by decide +kernel
theorem dX0_init_39 : decode cX0_init 39 = .ok (.bipush 30, 2) := by decide +kernel
theorem dX0_init_41 : decode cX0_init 41 = .ok (.iastore, 1) := by decide +kernel
theorem dX0_init_42 : decode cX0_init 42 = .ok (.putfield 23, 3) := by decide +kernel
theorem dX0_init_45 : decode cX0_init 45 = .ok (.iconst 0, 1) := by decide +kernel
theorem dX0_init_46 : decode cX0_init 46 = .ok (.istore_n 1, 1) := by decide +kernel
theorem dX0_init_47 : decode cX0_init 47 = .ok (.iload_n 1, 1) := by decide +kernel
theorem dX0_init_48 : decode cX0_init 48 = .ok (.aload_n 0, 1) := by decide +kernel
theorem dX0_init_49 : decode cX0_init 49 = .ok (.getfield 11, 3) := by decide +kernel
theorem dX0_init_52 : decode cX0_init 52 = .ok (.arraylength, 1) := by decide +kernel
theorem dX0_init_53 : decode cX0_init 53 = .ok (.if_icmp .ge 30, 3) := by decide +kernel
theorem dX0_init_56 : decode cX0_init 56 = .ok (.aload_n 0, 1) := by decide +kernel
theorem dX0_init_57 : decode cX0_init 57 = .ok (.getfield 11, 3) := by decide +kernel
theorem dX0_init_60 : decode cX0_init 60 = .ok (.iload_n 1, 1) := by decide +kernel
theorem dX0_init_61 : decode cX0_init 61 = .ok (.new 9, 3) := by decide +kernel
theorem dX0_init_64 : decode cX0_init 64 = .ok (.dup, 1) := by decide +kernel
theorem dX0_init_65 : decode cX0_init 65 = .ok (.sipush 200, 3) := by decide +kernel
theorem dX0_init_68 : decode cX0_init 68 = .ok (.bipush 100, 2) := by decide +kernel
theorem dX0_init_70 : decode cX0_init 70 = .ok (.iload_n 1, 1) := by decide +kernel
theorem dX0_init_71 : decode cX0_init 71 = .ok (.imul, 1) := by decide +kernel
theorem dX0_init_72 : decode cX0_init 72 = .ok (.iadd, 1) := by decide +kernel
theorem dX0_init_73 : decode cX0_init 73 = .ok (.invokespecial 27, 3) := by decide +kernel
theorem dX0_init_76 : decode cX0_init 76 = .ok (.aastore, 1) := by decide +kernel
theorem dX0_init_77 : decode cX0_init 77 = .ok (.iinc 1 1, 3) := by decide +kernel
theorem dX0_init_80 : decode cX0_init 80 = .ok (.goto (-33), 3) := by decide +kernel
theorem dX0_init_83 : decode cX0_init 83 = .ok (.iconst 0, 1) := by decide +kernel
theorem dX0_init_84 : decode cX0_init 84 = .ok (.istore_n 1, 1) := by decide +kernel
theorem dX0_init_85 : decode cX0_init 85 = .ok (.iload_n 1, 1) := by decide +kernel
theorem dX0_init_86 : decode cX0_init 86 = .ok (.aload_n 0, 1) := by decide +kernel
theorem dX0_init_87 : decode cX0_init 87 = .ok (.getfield 19, 3) := by decide +kernel
theorem dX0_init_90 : decode cX0_init 90 = .ok (.arraylength, 1) := by decide +kernel
theorem dX0_init_91 : decode cX0_init 91 = .ok (.if_icmp .ge 22, 3) := by decide +kernel
theorem dX0_init_94 : decode cX0_init 94 = .ok (.aload_n 0, 1) := by decide +kernel
theorem dX0_init_95 : decode cX0_init 95 = .ok (.getfield 19, 3) := by decide +kernel
theorem dX0_init_98 : decode cX0_init 98 = .ok (.iload_n 1, 1) := by decide +kernel
theorem dX0_init_99 : decode cX0_init 99 = .ok (.new 17, 3) := by decide +kernel
theorem dX0_init_102 : decode cX0_init 102 = .ok (.dup, 1) := by decide +kernel
theorem dX0_init_103 : decode cX0_init 103 = .ok (.invokespecial 30, 3) := by decide +kernel
theorem dX0_init_106 : decode cX0_init 106 = .ok (.aastore, 1) := by decide +kernel
theorem dX0_init_107 : decode cX0_init 107 = .ok (.iinc 1 1, 3) := by decide +kernel
theorem dX0_init_110 : decode cX0_init 110 = .ok (.goto (-25), 3) := by decide +kernel
theorem dX0_init_113 : decode cX0_init 113 = .ok (.return_, 1) := by decide +kernel
set_option maxRecDepth 100000 in
theorem ggX0_copyFrom_X1_copyFrom : GoodIn wsX0_copyFrom wsX1_copyFrom := goodIn_r _ [10, 11, 12, 13, 14, 15, 16, 17, 18, 19, 20, 34, 35, 36, 37, 38, 39, 40, 41, 42, 43] rfl (by decide +kernel)
set_option maxRecDepth 100000 in
theorem gX0_copyFrom_X1_copyFrom : GoodIn wsX0_copyFrom (wsV RX0 31 RX1 yX1_copyFrom wsX1_copyFrom) := goodIn_app (goodIn_r _ [6, 7, 8, 9] rfl (by decide +kernel)) ggX0_copyFrom_X1_copyFrom
set_option maxRecDepth 100000 in
theorem ggX0_copyFrom_X2_copyFrom : GoodIn wsX0_copyFrom wsX2_copyFrom := goodIn_r _ [25, 26, 27, 28, 44, 45, 46] rfl (by decide +kernel)
set_option maxRecDepth 100000 in
theorem gX0_copyFrom_X2_copyFrom : GoodIn wsX0_copyFrom (wsV RX0 35 RX2 yX2_copyFrom wsX2_copyFrom) := goodIn_app (goodIn_r _ [21, 22, 23, 24] rfl (by decide +kernel)) ggX0_copyFrom_X2_copyFrom
theorem dX0_copyFrom_0 : decode cX0_copyFrom 0 = .ok (.iconst 0, 1) := by decide +kernel
theorem dX0_copyFrom_1 : decode cX0_copyFrom 1 = .ok (.istore_n 2, 1) := by decide +kernel
theorem dX0_copyFrom_2 : decode cX0_copyFrom 2 = .ok (.iload_n 2, 1) := by decide +kernel
theorem dX0_copyFrom_3 : decode cX0_copyFrom 3 = .ok (.iconst 3, 1) := by decide +kernel
theorem dX0_copyFrom_4 : decode cX0_copyFrom 4 = .ok (.if_icmp .ge 24, 3) := by decide +kernel
theorem dX0_copyFrom_7 : decode cX0_copyFrom 7 = .ok (.aload_n 0, 1) := by decide +kernel
theorem dX0_copyFrom_8 : decode cX0_copyFrom 8 = .ok (.getfield 11, 3) := by decide +kernel
theorem dX0_copyFrom_11 : decode cX0_copyFrom 11 = .ok (.iload_n 2, 1) := by decide +kernel
theorem dX0_copyFrom_12 : decode cX0_copyFrom 12 = .ok (.aaload, 1) := by decide +kernel
theorem dX0_copyFrom_13 : decode cX0_copyFrom 13 = .ok (.aload_n 1, 1) := by decide +kernel
theorem dX0_copyFrom_14 : decode cX0_copyFrom 14 = .ok (.getfield 11, 3) := by decide +kernel
theorem dX0_copyFrom_17 : decode cX0_copyFrom 17 = .ok (.iload_n 2, 1) := by decide +kernel
theorem dX0_copyFrom_18 : decode cX0_copyFrom 18 = .ok (.aaload, 1) := by decide +kernel
theorem dX0_copyFrom_19 : decode cX0_copyFrom 19 = .ok (.invokevirtual 31, 3) := by decide +kernel
theorem dX0_copyFrom_22 : decode cX0_copyFrom 22 = .ok (.iinc 2 1, 3) := by decide +kernel
theorem dX0_copyFrom_25 : decode cX0_copyFrom 25 = .ok (.goto (-23), 3) := by decide +kernel
theorem dX0_copyFrom_28 : decode cX0_copyFrom 28 = .ok (.iconst 0, 1) := by decide +kernel
theorem dX0_copyFrom_29 : decode cX0_copyFrom 29 = .ok (.istore_n 2, 1) := by decide +kernel
theorem dX0_copyFrom_30 : decode cX0_copyFrom 30 = .ok (.iload_n 2, 1) := by decide +kernel
theorem dX0_copyFrom_31 : decode cX0_copyFrom 31 = .ok (.iconst 4, 1) := by decide +kernel
theorem dX0_copyFrom_32 : decode cX0_copyFrom 32 = .ok (.if_icmp .ge 24, 3) := by decide +kernel
theorem dX0_copyFrom_35 : decode cX0_copyFrom 35 = .ok (.aload_n 0, 1) := by decide +kernel
theorem dX0_copyFrom_36 : decode cX0_copyFrom 36 = .ok (.getfield 19, 3) := by decide +kernel
theorem dX0_copyFrom_39 : decode cX0_copyFrom 39 = .ok (.iload_n 2, 1) := by decide +kernel
theorem dX0_copyFrom_40 : decode cX0_copyFrom 40 = .ok (.aaload, 1) := by decide +kernel
theorem dX0_copyFrom_41 : decode cX0_copyFrom 41 = .ok (.aload_n 1, 1) := by decide +kernel
theorem dX0_copyFrom_42 : decode cX0_copyFrom 42 = .ok (.getfield 19, 3) := by decide +kernel
theorem dX0_copyFrom_45 : decode cX0_copyFrom 45 = .ok (.iload_n 2, 1) := by decide +kernel
theorem dX0_copyFrom_46 : decode cX0_copyFrom 46 = .ok (.aaload, 1) := by decide +kernel
theorem dX0_copyFrom_47 : decode cX0_copyFrom 47 = .ok (.invokevirtual 35, 3) := by decide +kernel
theorem dX0_copyFrom_50 : decode cX0_copyFrom 50 = .ok (.iinc 2 1, 3) := by decide +kernel
theorem dX0_copyFrom_53 : decode cX0_copyFrom 53 = .ok (.goto (-23), 3) := by decide +kernel
theorem dX0_copyFrom_56 : decode cX0_copyFrom 56 = .ok (.iconst 0, 1) := by decide +kernel
theorem dX0_copyFrom_57 : decode cX0_copyFrom 57 = .ok (.istore_n 2, 1) := by decide +kernel
theorem dX0_copyFrom_58 : decode cX0_copyFrom 58 = .ok (.iload_n 2, 1) := by decide +kernel
theorem dX0_copyFrom_59 : decode cX0_copyFrom 59 = .ok (.iconst 4, 1) := by decide +kernel
theorem dX0_copyFrom_60 : decode cX0_copyFrom 60 = .ok (.if_icmp .ge 21, 3) := by decide +kernel
theorem dX0_copyFrom_63 : decode cX0_copyFrom 63 = .ok (.aload_n 0, 1) := by decide +kernel
theorem dX0_copyFrom_64 : decode cX0_copyFrom 64 = .ok (.getfield 23, 3) := by decide +kernel
theorem dX0_copyFrom_67 : decode cX0_copyFrom 67 = .ok (.iload_n 2, 1) := by decide +kernel
theorem dX0_copyFrom_68 : decode cX0_copyFrom 68 = .ok (.aload_n 1, 1) := by decide +kernel
theorem dX0_copyFrom_69 : decode cX0_copyFrom 69 = .ok (.getfield 23, 3) := by decide +kernel
theorem dX0_copyFrom_72 : decode cX0_copyFrom 72 = .ok (.iload_n 2, 1) := by decide +kernel
theorem dX0_copyFrom_73 : decode cX0_copyFrom 73 = .ok (.iaload, 1) := by decide +kernel
theorem dX0_copyFrom_74 : decode cX0_copyFrom 74 = .ok (.iastore, 1) := by decide +kernel
theorem dX0_copyFrom_75 : decode cX0_copyFrom 75 = .ok (.iinc 2 1, 3) := by decide +kernel
theorem dX0_copyFrom_78 : decode cX0_copyFrom 78 = .ok (.goto (-20), 3) := by decide +kernel
theorem dX0_copyFrom_81 : decode cX0_copyFrom 81 = .ok (.aload_n 0, 1) := by decide +kernel
theorem dX0_copyFrom_82 : decode cX0_copyFrom 82 = .ok (.aload_n 1, 1) := by decide +kernel
theorem dX0_copyFrom_83 : decode cX0_copyFrom 83 = .ok (.getfield 38, 3) := by decide +kernel
theorem dX0_copyFrom_86 : decode cX0_copyFrom 86 = .ok (.putfield 38, 3) := by decide +kernel
theorem dX0_copyFrom_89 : decode cX0_copyFrom 89 = .ok (.aload_n 0, 1) := by decide +kernel
theorem dX0_copyFrom_90 : decode cX0_copyFrom 90 = .ok (.aload_n 1, 1) := by decide +kernel
theorem dX0_copyFrom_91 : decode cX0_copyFrom 91 = .ok (.getfield 42, 3) := by decide +kernel
theorem dX0_copyFrom_94 : decode cX0_copyFrom 94 = .ok (.putfield 42, 3) := by decide +kernel
theorem dX0_copyFrom_97 : decode cX0_copyFrom 97 = .ok (.return_, 1) := by decide +kernel
theorem dX0_alive_0 : decode cX0_alive 0 = .ok (.iconst 0, 1) := by decide +kernel
theorem dX0_alive_1 : decode cX0_alive 1 = .ok (.istore_n 1, 1) := by decide +kernel
theorem dX0_alive_2 : decode cX0_alive 2 = .ok (.iload_n 1, 1) := by decide +kernel
theorem dX0_alive_3 : decode cX0_alive 3 = .ok (.aload_n 0, 1) := by decide +kernel
theorem dX0_alive_4 : decode cX0_alive 4 = .ok (.getfield 11, 3) := by decide +kernel
theorem dX0_alive_7 : decode cX0_alive 7 = .ok (.arraylength, 1) := by decide +kernel
theorem dX0_alive_8 : decode cX0_alive 8 = .ok (.if_icmp .ge 23, 3) := by decide +kernel
theorem dX0_alive_11 : decode cX0_alive 11 = .ok (.aload_n 0, 1) := by decide +kernel
theorem dX0_alive_12 : decode cX0_alive 12 = .ok (.getfield 11, 3) := by decide +kernel
theorem dX0_alive_15 : decode cX0_alive 15 = .ok (.iload_n 1, 1) := by decide +kernel
theorem dX0_alive_16 : decode cX0_alive 16 = .ok (.aaload, 1) := by decide +kernel
theorem dX0_alive_17 : decode cX0_alive 17 = .ok (.getfield 45, 3) := by decide +kernel
theorem dX0_alive_20 : decode cX0_alive 20 = .ok (.ifCond .eq 5, 3) := by decide +kernel
theorem dX0_alive_23 : decode cX0_alive 23 = .ok (.iconst 1, 1) := by decide +kernel
theorem dX0_alive_24 : decode cX0_alive 24 = .ok (.ireturn, 1) := by decide +kernel
theorem dX0_alive_25 : decode cX0_alive 25 = .ok (.iinc 1 1, 3) := by decide +kernel
theorem dX0_alive_28 : decode cX0_alive 28 = .ok (.goto (-26), 3) := by decide +kernel
theorem dX0_alive_31 : decode cX0_alive 31 = .ok (.iconst 0, 1) := by decide +kernel
theorem dX0_alive_32 : decode cX0_alive 32 = .ok (.ireturn, 1) := by decide +kernel
theorem dX0_lowestClosed_0 : decode cX0_lowestClosed 0 = .ok (.iconst 0, 1) := by decide +kernel
theorem dX0_lowestClosed_1 : decode cX0_lowestClosed 1 = .ok (.istore_n 1, 1) := by decide +kernel
theorem dX0_lowestClosed_2 : decode cX0_lowestClosed 2 = .ok (.iload_n 1, 1) := by decide +kernel
theorem dX0_lowestClosed_3 : decode cX0_lowestClosed 3 = .ok (.aload_n 0, 1) := by decide +kernel
theorem dX0_lowestClosed_4 : decode cX0_lowestClosed 4 = .ok (.getfield 11, 3) := by decide +kernel
theorem dX0_lowestClosed_7 : decode cX0_lowestClosed 7 = .ok (.arraylength, 1) := by decide +kernel
theorem dX0_lowestClosed_8 : decode cX0_lowestClosed 8 = .ok (.if_icmp .ge 23, 3) := by decide +kernel
theorem dX0_lowestClosed_11 : decode cX0_lowestClosed 11 = .ok (.aload_n 0, 1) := by decide +kernel
theorem dX0_lowestClosed_12 : decode cX0_lowestClosed 12 = .ok (.getfield 11, 3) := by decide +kernel
theorem dX0_lowestClosed_15 : decode cX0_lowestClosed 15 = .ok (.iload_n 1, 1) := by decide +kernel
theorem dX0_lowestClosed_16 : decode cX0_lowestClosed 16 = .ok (.aaload, 1) := by decide +kernel
theorem dX0_lowestClosed_17 : decode cX0_lowestClosed 17 = .ok (.getfield 45, 3) := by decide +kernel
theorem dX0_lowestClosed_20 : decode cX0_lowestClosed 20 = .ok (.ifCond .eq 5, 3) := by decide +kernel
theorem dX0_lowestClosed_23 : decode cX0_lowestClosed 23 = .ok (.iload_n 1, 1) := by decide +kernel
theorem dX0_lowestClosed_24 : decode cX0_lowestClosed 24 = .ok (.ireturn, 1) := by decide +kernel
theorem dX0_lowestClosed_25 : decode cX0_lowestClosed 25 = .ok (.iinc 1 1, 3) := by decide +kernel
theorem dX0_lowestClosed_28 : decode cX0_lowestClosed 28 = .ok (.goto (-26), 3) := by decide +kernel
theorem dX0_lowestClosed_31 : decode cX0_lowestClosed 31 = .ok (.iconst (-1), 1) := by decide +kernel
theorem dX0_lowestClosed_32 : decode cX0_lowestClosed 32 = .ok (.ireturn, 1) := by decide +kernel
set_option maxRecDepth 100000 in
theorem ggX0_demand_X0_alive : GoodIn wsX0_demand wsX0_alive := goodIn_r _ [8, 9, 10, 11, 12, 13, 14, 15, 19, 20, 21, 22, 23, 24, 25, 26, 27, 28] rfl (by decide +kernel)
set_option maxRecDepth 100000 in
theorem gX0_demand_X0_alive : GoodIn wsX0_demand (wsV RX0 49 RX0 yX0_alive wsX0_alive) := goodIn_app (goodIn_r _ [4, 5, 6, 7] rfl (by decide +kernel)) ggX0_demand_X0_alive
theorem dX0_demand_0 : decode cX0_demand 0 = .ok (.aload_n 0, 1) := by decide +kernel
theorem dX0_demand_1 : decode cX0_demand 1 = .ok (.invokevirtual 49, 3) := by decide +kernel
theorem dX0_demand_4 : decode cX0_demand 4 = .ok (.ifCond .ne 5, 3) := by decide +kernel
theorem dX0_demand_7 : decode cX0_demand 7 = .ok (.iconst 0, 1) := by decide +kernel
theorem dX0_demand_8 : decode cX0_demand 8 = .ok (.ireturn, 1) := by decide +kernel
theorem dX0_demand_9 : decode cX0_demand 9 = .ok (.iconst 0, 1) := by decide +kernel
theorem dX0_demand_10 : decode cX0_demand 10 = .ok (.istore_n 1, 1) := by decide +kernel
theorem dX0_demand_11 : decode cX0_demand 11 = .ok (.iconst 0, 1) := by decide +kernel
theorem dX0_demand_12 : decode cX0_demand 12 = .ok (.istore_n 2, 1) := by decide +kernel
theorem dX0_demand_13 : decode cX0_demand 13 = .ok (.iload_n 2, 1) := by decide +kernel
theorem dX0_demand_14 : decode cX0_demand 14 = .ok (.aload_n 0, 1) := by decide +kernel
theorem dX0_demand_15 : decode cX0_demand 15 = .ok (.getfield 19, 3) := by decide +kernel
theorem dX0_demand_18 : decode cX0_demand 18 = .ok (.arraylength, 1) := by decide +kernel
theorem dX0_demand_19 : decode cX0_demand 19 = .ok (.if_icmp .ge 33, 3) := by decide +kernel
theorem dX0_demand_22 : decode cX0_demand 22 = .ok (.aload_n 0, 1) := by decide +kernel
theorem dX0_demand_23 : decode cX0_demand 23 = .ok (.getfield 19, 3) := by decide +kernel
theorem dX0_demand_26 : decode cX0_demand 26 = .ok (.iload_n 2, 1) := by decide +kernel
theorem dX0_demand_27 : decode cX0_demand 27 = .ok (.aaload, 1) := by decide +kernel
theorem dX0_demand_28 : decode cX0_demand 28 = .ok (.getfield 53, 3) := by decide +kernel
theorem dX0_demand_31 : decode cX0_demand 31 = .ok (.ifCond .eq 15, 3) := by decide +kernel
theorem dX0_demand_34 : decode cX0_demand 34 = .ok (.iload_n 1, 1) := by decide +kernel
theorem dX0_demand_35 : decode cX0_demand 35 = .ok (.aload_n 0, 1) := by decide +kernel
theorem dX0_demand_36 : decode cX0_demand 36 = .ok (.getfield 19, 3) := by decide +kernel
theorem dX0_demand_39 : decode cX0_demand 39 = .ok (.iload_n 2, 1) := by decide +kernel
theorem dX0_demand_40 : decode cX0_demand 40 = .ok (.aaload, 1) := by decide +kernel
theorem dX0_demand_41 : decode cX0_demand 41 = .ok (.getfield 56, 3) := by decide +kernel
theorem dX0_demand_44 : decode cX0_demand 44 = .ok (.iadd, 1) := by decide +kernel
theorem dX0_demand_45 : decode cX0_demand 45 = .ok (.istore_n 1, 1) := by decide +kernel
theorem dX0_demand_46 : decode cX0_demand 46 = .ok (.iinc 2 1, 3) := by decide +kernel
theorem dX0_demand_49 : decode cX0_demand 49 = .ok (.goto (-36), 3) := by decide +kernel
theorem dX0_demand_52 : decode cX0_demand 52 = .ok (.iload_n 1, 1) := by decide +kernel
theorem dX0_demand_53 : decode cX0_demand 53 = .ok (.ireturn, 1) := by decide +kernel
set_option maxRecDepth 100000 in
theorem ggX0_total_X1_gives : GoodIn wsX0_total wsX1_gives := goodIn_r _ [6, 7, 8, 9, 10, 16, 17, 18, 19, 20, 21, 22, 23, 24, 25] rfl (by decide +kernel)
set_option maxRecDepth 100000 in
theorem gX0_total_X1_gives : GoodIn wsX0_total (wsV RX0 59 RX1 yX1_gives wsX1_gives) := goodIn_app (goodIn_r _ [2, 3, 4, 5] rfl (by decide +kernel)) ggX0_total_X1_gives
theorem dX0_total_0 : decode cX0_total 0 = .ok (.iconst 0, 1) := by decide +kernel
theorem dX0_total_1 : decode cX0_total 1 = .ok (.istore_n 2, 1) := by decide +kernel
theorem dX0_total_2 : decode cX0_total 2 = .ok (.iconst 0, 1) := by decide +kernel
theorem dX0_total_3 : decode cX0_total 3 = .ok (.istore_n 3, 1) := by decide +kernel
theorem dX0_total_4 : decode cX0_total 4 = .ok (.iload_n 3, 1) := by decide +kernel
theorem dX0_total_5 : decode cX0_total 5 = .ok (.aload_n 0, 1) := by decide +kernel
theorem dX0_total_6 : decode cX0_total 6 = .ok (.getfield 11, 3) := by decide +kernel
theorem dX0_total_9 : decode cX0_total 9 = .ok (.arraylength, 1) := by decide +kernel
theorem dX0_total_10 : decode cX0_total 10 = .ok (.if_icmp .ge 22, 3) := by decide +kernel
theorem dX0_total_13 : decode cX0_total 13 = .ok (.iload_n 2, 1) := by decide +kernel
theorem dX0_total_14 : decode cX0_total 14 = .ok (.aload_n 0, 1) := by decide +kernel
theorem dX0_total_15 : decode cX0_total 15 = .ok (.getfield 11, 3) := by decide +kernel
theorem dX0_total_18 : decode cX0_total 18 = .ok (.iload_n 3, 1) := by decide +kernel
theorem dX0_total_19 : decode cX0_total 19 = .ok (.aaload, 1) := by decide +kernel
theorem dX0_total_20 : decode cX0_total 20 = .ok (.iload_n 1, 1) := by decide +kernel
theorem dX0_total_21 : decode cX0_total 21 = .ok (.invokevirtual 59, 3) := by decide +kernel
theorem dX0_total_24 : decode cX0_total 24 = .ok (.iadd, 1) := by decide +kernel
theorem dX0_total_25 : decode cX0_total 25 = .ok (.istore_n 2, 1) := by decide +kernel
theorem dX0_total_26 : decode cX0_total 26 = .ok (.iinc 3 1, 3) := by decide +kernel
theorem dX0_total_29 : decode cX0_total 29 = .ok (.goto (-25), 3) := by decide +kernel
theorem dX0_total_32 : decode cX0_total 32 = .ok (.iload_n 2, 1) := by decide +kernel
theorem dX0_total_33 : decode cX0_total 33 = .ok (.ireturn, 1) := by decide +kernel
set_option maxRecDepth 100000 in
theorem ggX0_frequency_X0_alive : GoodIn wsX0_frequency wsX0_alive := goodIn_r _ [5, 6, 7, 28, 29, 30, 31, 32, 33, 34, 35, 36, 37, 38, 39, 40, 41, 42] rfl (by decide +kernel)
set_option maxRecDepth 100000 in
theorem gX0_frequency_X0_alive : GoodIn wsX0_frequency (wsV RX0 49 RX0 yX0_alive wsX0_alive) := goodIn_app (goodIn_r _ [1, 2, 3, 4] rfl (by decide +kernel)) ggX0_frequency_X0_alive
set_option maxRecDepth 100000 in
theorem ggX0_frequency_X0_demand : GoodIn wsX0_frequency wsX0_demand := goodIn_r _ [11, 12, 13, 14, 1, 2, 3, 4, 5, 6, 7, 28, 29, 30, 31, 32, 43, 44, 45, 33, 34, 35, 36, 37, 38, 39, 40, 41, 42] rfl (by decide +kernel)
set_option maxRecDepth 100000 in
theorem gX0_frequency_X0_demand : GoodIn wsX0_frequency (wsV RX0 63 RX0 yX0_demand wsX0_demand) := goodIn_app (goodIn_r _ [8, 9, 10, 4] rfl (by decide +kernel)) ggX0_frequency_X0_demand
set_option maxRecDepth 100000 in
theorem ggX0_frequency_X0_total : GoodIn wsX0_frequency wsX0_total := goodIn_r _ [18, 6, 19, 20, 21, 22, 23, 24, 25, 26, 27, 28, 29, 30, 31, 32, 33, 34, 35, 36, 37, 38, 39, 40, 41, 42] rfl (by decide +kernel)
set_option maxRecDepth 100000 in
theorem gX0_frequency_X0_total : GoodIn wsX0_frequency (wsV RX0 67 RX0 yX0_total wsX0_total) := goodIn_app (goodIn_r _ [15, 16, 17, 4] rfl (by decide +kernel)) ggX0_frequency_X0_total
theorem dX0_frequency_0 : decode cX0_frequency 0 = .ok (.aload_n 0, 1) := by decide +kernel
theorem dX0_frequency_1 : decode cX0_frequency 1 = .ok (.invokevirtual 49, 3) := by decide +kernel
theorem dX0_frequency_4 : decode cX0_frequency 4 = .ok (.ifCond .ne 5, 3) := by decide +kernel
theorem dX0_frequency_7 : decode cX0_frequency 7 = .ok (.iconst 0, 1) := by decide +kernel
theorem dX0_frequency_8 : decode cX0_frequency 8 = .ok (.ireturn, 1) := by decide +kernel
theorem dX0_frequency_9 : decode cX0_frequency 9 = .ok (.aload_n 0, 1) := by decide +kernel
theorem dX0_frequency_10 : decode cX0_frequency 10 = .ok (.invokevirtual 63, 3) := by decide +kernel
theorem dX0_frequency_13 : decode cX0_frequency 13 = .ok (.istore_n 1, 1) := by decide +kernel
theorem dX0_frequency_14 : decode cX0_frequency 14 = .ok (.sipush 4700, 3) := by decide +kernel
theorem dX0_frequency_17 : decode cX0_frequency 17 = .ok (.istore_n 2, 1) := by decide +kernel
theorem dX0_frequency_18 : decode cX0_frequency 18 = .ok (.sipush 5300, 3) := by decide +kernel
theorem dX0_frequency_21 : decode cX0_frequency 21 = .ok (.istore_n 3, 1) := by decide +kernel
theorem dX0_frequency_22 : decode cX0_frequency 22 = .ok (.iconst 0, 1) := by decide +kernel
theorem dX0_frequency_23 : decode cX0_frequency 23 = .ok (.istore 4, 2) := by decide +kernel
theorem dX0_frequency_25 : decode cX0_frequency 25 = .ok (.iload 4, 2) := by decide +kernel
theorem dX0_frequency_27 : decode cX0_frequency 27 = .ok (.bipush 10, 2) := by decide +kernel
theorem dX0_frequency_29 : decode cX0_frequency 29 = .ok (.if_icmp .ge 44, 3) := by decide +kernel
theorem dX0_frequency_32 : decode cX0_frequency 32 = .ok (.iload_n 2, 1) := by decide +kernel
theorem dX0_frequency_33 : decode cX0_frequency 33 = .ok (.iload_n 3, 1) := by decide +kernel
theorem dX0_frequency_34 : decode cX0_frequency 34 = .ok (.if_icmp .ge 39, 3) := by decide +kernel
theorem dX0_frequency_37 : decode cX0_frequency 37 = .ok (.iload_n 2, 1) := by decide +kernel
theorem dX0_frequency_38 : decode cX0_frequency 38 = .ok (.iload_n 3, 1) := by decide +kernel
theorem dX0_frequency_39 : decode cX0_frequency 39 = .ok (.iadd, 1) := by decide +kernel
theorem dX0_frequency_40 : decode cX0_frequency 40 = .ok (.iconst 1, 1) := by decide +kernel
theorem dX0_frequency_41 : decode cX0_frequency 41 = .ok (.iadd, 1) := by decide +kernel
theorem dX0_frequency_42 : decode cX0_frequency 42 = .ok (.iconst 2, 1) := by decide +kernel
theorem dX0_frequency_43 : decode cX0_frequency 43 = .ok (.idiv, 1) := by decide +kernel
theorem dX0_frequency_44 : decode cX0_frequency 44 = .ok (.istore 5, 2) := by decide +kernel
theorem dX0_frequency_46 : decode cX0_frequency 46 = .ok (.aload_n 0, 1) := by decide +kernel
theorem dX0_frequency_47 : decode cX0_frequency 47 = .ok (.iload 5, 2) := by decide +kernel
theorem dX0_frequency_49 : decode cX0_frequency 49 = .ok (.invokevirtual 67, 3) := by decide +kernel
theorem dX0_frequency_52 : decode cX0_frequency 52 = .ok (.iload_n 1, 1) := by decide +kernel
theorem dX0_frequency_53 : decode cX0_frequency 53 = .ok (.if_icmp .lt 9, 3) := by decide +kernel
theorem dX0_frequency_56 : decode cX0_frequency 56 = .ok (.iload 5, 2) := by decide +kernel
theorem dX0_frequency_58 : decode cX0_frequency 58 = .ok (.istore_n 2, 1) := by decide +kernel
theorem dX0_frequency_59 : decode cX0_frequency 59 = .ok (.goto 8, 3) := by decide +kernel
theorem dX0_frequency_62 : decode cX0_frequency 62 = .ok (.iload 5, 2) := by decide +kernel
theorem dX0_frequency_64 : decode cX0_frequency 64 = .ok (.iconst 1, 1) := by decide +kernel
theorem dX0_frequency_65 : decode cX0_frequency 65 = .ok (.isub, 1) := by decide +kernel
theorem dX0_frequency_66 : decode cX0_frequency 66 = .ok (.istore_n 3, 1) := by decide +kernel
theorem dX0_frequency_67 : decode cX0_frequency 67 = .ok (.iinc 4 1, 3) := by decide +kernel
theorem dX0_frequency_70 : decode cX0_frequency 70 = .ok (.goto (-45), 3) := by decide +kernel
theorem dX0_frequency_73 : decode cX0_frequency 73 = .ok (.iload_n 2, 1) := by decide +kernel
theorem dX0_frequency_74 : decode cX0_frequency 74 = .ok (.ireturn, 1) := by decide +kernel
set_option maxRecDepth 100000 in
theorem ggX0_frequencyDownwards_X0_alive : GoodIn wsX0_frequencyDownwards wsX0_alive := goodIn_r _ [5, 6, 7, 28, 29, 30, 31, 32, 33, 34, 35, 36, 37, 38, 39, 40, 41, 42] rfl (by decide +kernel)
set_option maxRecDepth 100000 in
theorem gX0_frequencyDownwards_X0_alive : GoodIn wsX0_frequencyDownwards (wsV RX0 49 RX0 yX0_alive wsX0_alive) := goodIn_app (goodIn_r _ [1, 2, 3, 4] rfl (by decide +kernel)) ggX0_frequencyDownwards_X0_alive
set_option maxRecDepth 100000 in
theorem ggX0_frequencyDownwards_X0_demand : GoodIn wsX0_frequencyDownwards wsX0_demand := goodIn_r _ [11, 12, 13, 14, 1, 2, 3, 4, 5, 6, 7, 28, 29, 30, 31, 32, 43, 44, 45, 33, 34, 35, 36, 37, 38, 39, 40, 41, 42] rfl (by decide +kernel)
set_option maxRecDepth 100000 in
theorem gX0_frequencyDownwards_X0_demand : GoodIn wsX0_frequencyDownwards (wsV RX0 63 RX0 yX0_demand wsX0_demand) := goodIn_app (goodIn_r _ [8, 9, 10, 4] rfl (by decide +kernel)) ggX0_frequencyDownwards_X0_demand
set_option maxRecDepth 100000 in
theorem ggX0_frequencyDownwards_X0_total : GoodIn wsX0_frequencyDownwards wsX0_total := goodIn_r _ [18, 6, 19, 20, 21, 22, 23, 24, 25, 26, 27, 28, 29, 30, 31, 32, 33, 34, 35, 36, 37, 38, 39, 40, 41, 42] rfl (by decide +kernel)
set_option maxRecDepth 100000 in
theorem gX0_frequencyDownwards_X0_total : GoodIn wsX0_frequencyDownwards (wsV RX0 67 RX0 yX0_total wsX0_total) := goodIn_app (goodIn_r _ [15, 16, 17, 4] rfl (by decide +kernel)) ggX0_frequencyDownwards_X0_total
theorem dX0_frequencyDownwards_0 : decode cX0_frequencyDownwards 0 = .ok (.aload_n 0, 1) := by decide +kernel
theorem dX0_frequencyDownwards_1 : decode cX0_frequencyDownwards 1 = .ok (.invokevirtual 49, 3) := by decide +kernel
theorem dX0_frequencyDownwards_4 : decode cX0_frequencyDownwards 4 = .ok (.ifCond .ne 5, 3) := by decide +kernel
theorem dX0_frequencyDownwards_7 : decode cX0_frequencyDownwards 7 = .ok (.iconst 0, 1) := by decide +kernel
theorem dX0_frequencyDownwards_8 : decode cX0_frequencyDownwards 8 = .ok (.ireturn, 1) := by decide +kernel
theorem dX0_frequencyDownwards_9 : decode cX0_frequencyDownwards 9 = .ok (.aload_n 0, 1) := by decide +kernel
theorem dX0_frequencyDownwards_10 : decode cX0_frequencyDownwards 10 = .ok (.invokevirtual 63, 3) := by decide +kernel
theorem dX0_frequencyDownwards_13 : decode cX0_frequencyDownwards 13 = .ok (.istore_n 1, 1) := by decide +kernel
theorem dX0_frequencyDownwards_14 : decode cX0_frequencyDownwards 14 = .ok (.sipush 5300, 3) := by decide +kernel
theorem dX0_frequencyDownwards_17 : decode cX0_frequencyDownwards 17 = .ok (.istore_n 2, 1) := by decide +kernel
theorem dX0_frequencyDownwards_18 : decode cX0_frequencyDownwards 18 = .ok (.iload_n 2, 1) := by decide +kernel
theorem dX0_frequencyDownwards_19 : decode cX0_frequencyDownwards 19 = .ok (.sipush 4700, 3) := by decide +kernel
theorem dX0_frequencyDownwards_22 : decode cX0_frequencyDownwards 22 = .ok (.if_icmp .le 20, 3) := by decide +kernel
theorem dX0_frequencyDownwards_25 : decode cX0_frequencyDownwards 25 = .ok (.aload_n 0, 1) := by decide +kernel
theorem dX0_frequencyDownwards_26 : decode cX0_frequencyDownwards 26 = .ok (.iload_n 2, 1) := by decide +kernel
theorem dX0_frequencyDownwards_27 : decode cX0_frequencyDownwards 27 = .ok (.invokevirtual 67, 3) := by decide +kernel
theorem dX0_frequencyDownwards_30 : decode cX0_frequencyDownwards 30 = .ok (.iload_n 1, 1) := by decide +kernel
theorem dX0_frequencyDownwards_31 : decode cX0_frequencyDownwards 31 = .ok (.if_icmp .lt 5, 3) := by decide +kernel
theorem dX0_frequencyDownwards_34 : decode cX0_frequencyDownwards 34 = .ok (.iload_n 2, 1) := by decide +kernel
theorem dX0_frequencyDownwards_35 : decode cX0_frequencyDownwards 35 = .ok (.ireturn, 1) := by decide +kernel
theorem dX0_frequencyDownwards_36 : decode cX0_frequencyDownwards 36 = .ok (.iinc 2 (-1), 3) := by decide +kernel
theorem dX0_frequencyDownwards_39 : decode cX0_frequencyDownwards 39 = .ok (.goto (-21), 3) := by decide +kernel
theorem dX0_frequencyDownwards_42 : decode cX0_frequencyDownwards 42 = .ok (.sipush 4700, 3) := by decide +kernel
theorem dX0_frequencyDownwards_45 : decode cX0_frequencyDownwards 45 = .ok (.ireturn, 1) := by decide +kernel
set_option maxRecDepth 100000 in
theorem ggX0_power_X1_gives : GoodIn wsX0_power wsX1_gives := goodIn_r _ [10, 11, 12, 13, 14, 41, 42, 43, 44, 45, 46, 47, 48, 49, 50] rfl (by decide +kernel)
set_option maxRecDepth 100000 in
theorem gX0_power_X1_gives : GoodIn wsX0_power (wsV RX0 59 RX1 yX1_gives wsX1_gives) := goodIn_app (goodIn_r _ [6, 7, 8, 9] rfl (by decide +kernel)) ggX0_power_X1_gives
set_option maxRecDepth 100000 in
theorem ggX0_power_X0_lowestClosed : GoodIn wsX0_power wsX0_lowestClosed := goodIn_r _ [19, 1, 20, 36, 37, 38, 39, 40, 41, 42, 43, 44, 45, 46, 47, 48, 49, 50] rfl (by decide +kernel)
set_option maxRecDepth 100000 in
theorem gX0_power_X0_lowestClosed : GoodIn wsX0_power (wsV RX0 70 RX0 yX0_lowestClosed wsX0_lowestClosed) := goodIn_app (goodIn_r _ [15, 16, 17, 18] rfl (by decide +kernel)) ggX0_power_X0_lowestClosed
set_option maxRecDepth 100000 in
theorem ggX0_power_X0_total : GoodIn wsX0_power wsX0_total := goodIn_r _ [24, 1, 6, 7, 8, 9, 10, 11, 12, 13, 14, 36, 37, 38, 39, 40, 41, 42, 43, 44, 45, 46, 47, 48, 49, 50] rfl (by decide +kernel)
set_option maxRecDepth 100000 in
theorem gX0_power_X0_total : GoodIn wsX0_power (wsV RX0 67 RX0 yX0_total wsX0_total) := goodIn_app (goodIn_r _ [21, 22, 23, 18] rfl (by decide +kernel)) ggX0_power_X0_total
set_option maxRecDepth 100000 in
theorem ggX0_power_X0_demand : GoodIn wsX0_power wsX0_demand := goodIn_r _ [28, 29, 30, 31, 32, 33, 34, 18, 35, 1, 20, 36, 37, 38, 39, 40, 51, 52, 53, 41, 42, 43, 44, 45, 46, 47, 48, 49, 50] rfl (by decide +kernel)
set_option maxRecDepth 100000 in
theorem gX0_power_X0_demand : GoodIn wsX0_power (wsV RX0 63 RX0 yX0_demand wsX0_demand) := goodIn_app (goodIn_r _ [25, 26, 27, 18] rfl (by decide +kernel)) ggX0_power_X0_demand
theorem dX0_power_0 : decode cX0_power 0 = .ok (.aload_n 0, 1) := by decide +kernel
theorem dX0_power_1 : decode cX0_power 1 = .ok (.getfield 11, 3) := by decide +kernel
theorem dX0_power_4 : decode cX0_power 4 = .ok (.iload_n 1, 1) := by decide +kernel
theorem dX0_power_5 : decode cX0_power 5 = .ok (.aaload, 1) := by decide +kernel
theorem dX0_power_6 : decode cX0_power 6 = .ok (.iload_n 2, 1) := by decide +kernel
theorem dX0_power_7 : decode cX0_power 7 = .ok (.invokevirtual 59, 3) := by decide +kernel
theorem dX0_power_10 : decode cX0_power 10 = .ok (.istore_n 3, 1) := by decide +kernel
theorem dX0_power_11 : decode cX0_power 11 = .ok (.iload_n 1, 1) := by decide +kernel
theorem dX0_power_12 : decode cX0_power 12 = .ok (.aload_n 0, 1) := by decide +kernel
theorem dX0_power_13 : decode cX0_power 13 = .ok (.invokevirtual 70, 3) := by decide +kernel
theorem dX0_power_16 : decode cX0_power 16 = .ok (.if_icmp .eq 5, 3) := by decide +kernel
theorem dX0_power_19 : decode cX0_power 19 = .ok (.iload_n 3, 1) := by decide +kernel
theorem dX0_power_20 : decode cX0_power 20 = .ok (.ireturn, 1) := by decide +kernel
theorem dX0_power_21 : decode cX0_power 21 = .ok (.iload_n 3, 1) := by decide +kernel
theorem dX0_power_22 : decode cX0_power 22 = .ok (.aload_n 0, 1) := by decide +kernel
theorem dX0_power_23 : decode cX0_power 23 = .ok (.iload_n 2, 1) := by decide +kernel
theorem dX0_power_24 : decode cX0_power 24 = .ok (.invokevirtual 67, 3) := by decide +kernel
theorem dX0_power_27 : decode cX0_power 27 = .ok (.aload_n 0, 1) := by decide +kernel
theorem dX0_power_28 : decode cX0_power 28 = .ok (.invokevirtual 63, 3) := by decide +kernel
theorem dX0_power_31 : decode cX0_power 31 = .ok (.isub, 1) := by decide +kernel
theorem dX0_power_32 : decode cX0_power 32 = .ok (.iconst 0, 1) := by decide +kernel
theorem dX0_power_33 : decode cX0_power 33 = .ok (.invokestatic 73, 3) := by decide +kernel
theorem dX0_power_36 : decode cX0_power 36 = .ok (.isub, 1) := by decide +kernel
theorem dX0_power_37 : decode cX0_power 37 = .ok (.ireturn, 1) := by decide +kernel
set_option maxRecDepth 100000 in
theorem ggX0_powers_X0_power : GoodIn wsX0_powers wsX0_power := goodIn_r _ [6, 1, 7, 8, 9, 10, 11, 12, 13, 14, 15, 16, 17, 18, 19, 20, 21, 22, 5, 23, 24, 25, 26, 27, 28, 29, 30, 31, 32, 33, 34, 35, 36, 37, 38, 39, 40, 41, 42, 43, 44, 45, 46, 47, 48, 49, 50, 51, 52, 53, 54, 55, 56, 57] rfl (by decide +kernel)
set_option maxRecDepth 100000 in
theorem gX0_powers_X0_power : GoodIn wsX0_powers (wsV RX0 79 RX0 yX0_power wsX0_power) := goodIn_app (goodIn_r _ [2, 3, 4, 5] rfl (by decide +kernel)) ggX0_powers_X0_power
theorem dX0_powers_0 : decode cX0_powers 0 = .ok (.iconst 0, 1) := by decide +kernel
theorem dX0_powers_1 : decode cX0_powers 1 = .ok (.istore_n 2, 1) := by decide +kernel
theorem dX0_powers_2 : decode cX0_powers 2 = .ok (.iconst 0, 1) := by decide +kernel
theorem dX0_powers_3 : decode cX0_powers 3 = .ok (.istore_n 3, 1) := by decide +kernel
theorem dX0_powers_4 : decode cX0_powers 4 = .ok (.iload_n 3, 1) := by decide +kernel
theorem dX0_powers_5 : decode cX0_powers 5 = .ok (.aload_n 0, 1) := by decide +kernel
theorem dX0_powers_6 : decode cX0_powers 6 = .ok (.getfield 11, 3) := by decide +kernel
theorem dX0_powers_9 : decode cX0_powers 9 = .ok (.arraylength, 1) := by decide +kernel
theorem dX0_powers_10 : decode cX0_powers 10 = .ok (.if_icmp .ge 18, 3) := by decide +kernel
theorem dX0_powers_13 : decode cX0_powers 13 = .ok (.iload_n 2, 1) := by decide +kernel
theorem dX0_powers_14 : decode cX0_powers 14 = .ok (.aload_n 0, 1) := by decide +kernel
theorem dX0_powers_15 : decode cX0_powers 15 = .ok (.iload_n 3, 1) := by decide +kernel
theorem dX0_powers_16 : decode cX0_powers 16 = .ok (.iload_n 1, 1) := by decide +kernel
theorem dX0_powers_17 : decode cX0_powers 17 = .ok (.invokevirtual 79, 3) := by decide +kernel
theorem dX0_powers_20 : decode cX0_powers 20 = .ok (.iadd, 1) := by decide +kernel
theorem dX0_powers_21 : decode cX0_powers 21 = .ok (.istore_n 2, 1) := by decide +kernel
theorem dX0_powers_22 : decode cX0_powers 22 = .ok (.iinc 3 1, 3) := by decide +kernel
theorem dX0_powers_25 : decode cX0_powers 25 = .ok (.goto (-21), 3) := by decide +kernel
theorem dX0_powers_28 : decode cX0_powers 28 = .ok (.iload_n 2, 1) := by decide +kernel
theorem dX0_powers_29 : decode cX0_powers 29 = .ok (.ireturn, 1) := by decide +kernel
set_option maxRecDepth 100000 in
theorem ggX0_lack_X0_demand : GoodIn wsX0_lack wsX0_demand := goodIn_r _ [9, 10, 11, 12, 13, 14, 15, 8, 16, 17, 18, 32, 33, 34, 35, 36, 37, 38, 39, 40, 41, 42, 43, 44, 45, 46, 47, 48, 49] rfl (by decide +kernel)
set_option maxRecDepth 100000 in
theorem gX0_lack_X0_demand : GoodIn wsX0_lack (wsV RX0 63 RX0 yX0_demand wsX0_demand) := goodIn_app (goodIn_r _ [5, 6, 7, 8] rfl (by decide +kernel)) ggX0_lack_X0_demand
set_option maxRecDepth 100000 in
theorem ggX0_lack_X0_total : GoodIn wsX0_lack wsX0_total := goodIn_r _ [22, 17, 23, 24, 25, 26, 27, 28, 29, 30, 31, 32, 33, 34, 35, 36, 40, 41, 42, 43, 44, 45, 46, 47, 48, 49] rfl (by decide +kernel)
set_option maxRecDepth 100000 in
theorem gX0_lack_X0_total : GoodIn wsX0_lack (wsV RX0 67 RX0 yX0_total wsX0_total) := goodIn_app (goodIn_r _ [19, 20, 21, 8] rfl (by decide +kernel)) ggX0_lack_X0_total
theorem dX0_lack_0 : decode cX0_lack 0 = .ok (.aload_n 0, 1) := by decide +kernel
theorem dX0_lack_1 : decode cX0_lack 1 = .ok (.invokevirtual 63, 3) := by decide +kernel
theorem dX0_lack_4 : decode cX0_lack 4 = .ok (.aload_n 0, 1) := by decide +kernel
theorem dX0_lack_5 : decode cX0_lack 5 = .ok (.iload_n 1, 1) := by decide +kernel
theorem dX0_lack_6 : decode cX0_lack 6 = .ok (.invokevirtual 67, 3) := by decide +kernel
theorem dX0_lack_9 : decode cX0_lack 9 = .ok (.isub, 1) := by decide +kernel
theorem dX0_lack_10 : decode cX0_lack 10 = .ok (.iconst 0, 1) := by decide +kernel
theorem dX0_lack_11 : decode cX0_lack 11 = .ok (.invokestatic 73, 3) := by decide +kernel
theorem dX0_lack_14 : decode cX0_lack 14 = .ok (.ireturn, 1) := by decide +kernel
set_option maxRecDepth 100000 in
theorem ggX0_whyNotClosed_X0_alive : GoodIn wsX0_whyNotClosed wsX0_alive := goodIn_r _ [14, 1, 3, 47, 48, 49, 50, 51, 52, 53, 54, 55, 56, 57, 58, 59, 60, 61] rfl (by decide +kernel)
set_option maxRecDepth 100000 in
theorem gX0_whyNotClosed_X0_alive : GoodIn wsX0_whyNotClosed (wsV RX0 49 RX0 yX0_alive wsX0_alive) := goodIn_app (goodIn_r _ [10, 11, 12, 13] rfl (by decide +kernel)) ggX0_whyNotClosed_X0_alive
set_option maxRecDepth 100000 in
theorem ggX0_whyNotClosed_X0_frequency : GoodIn wsX0_whyNotClosed wsX0_frequency := goodIn_r _ [18, 10, 11, 12, 13, 14, 1, 3, 19, 20, 21, 22, 23, 24, 25, 26, 27, 28, 29, 30, 31, 32, 33, 34, 35, 36, 37, 38, 47, 48, 49, 50, 51, 52, 53, 54, 55, 56, 57, 58, 59, 60, 61, 62, 63, 64] rfl (by decide +kernel)
set_option maxRecDepth 100000 in
theorem gX0_whyNotClosed_X0_frequency : GoodIn wsX0_whyNotClosed (wsV RX0 88 RX0 yX0_frequency wsX0_frequency) := goodIn_app (goodIn_r _ [15, 16, 17, 13] rfl (by decide +kernel)) ggX0_whyNotClosed_X0_frequency
set_option maxRecDepth 100000 in
theorem ggX0_whyNotClosed_X1_lamps : GoodIn wsX0_whyNotClosed wsX1_lamps := goodIn_r _ [42, 43, 44, 45, 7, 46, 52, 53, 54, 55, 56, 57, 58, 59, 60, 61] rfl (by decide +kernel)
set_option maxRecDepth 100000 in
theorem gX0_whyNotClosed_X1_lamps : GoodIn wsX0_whyNotClosed (wsV RX0 94 RX1 yX1_lamps wsX1_lamps) := goodIn_app (goodIn_r _ [39, 40, 41, 33] rfl (by decide +kernel)) ggX0_whyNotClosed_X1_lamps
theorem dX0_whyNotClosed_0 : decode cX0_whyNotClosed 0 = .ok (.aload_n 0, 1) := by decide +kernel
theorem dX0_whyNotClosed_1 : decode cX0_whyNotClosed 1 = .ok (.getfield 11, 3) := by decide +kernel
theorem dX0_whyNotClosed_4 : decode cX0_whyNotClosed 4 = .ok (.iload_n 1, 1) := by decide +kernel
theorem dX0_whyNotClosed_5 : decode cX0_whyNotClosed 5 = .ok (.aaload, 1) := by decide +kernel
theorem dX0_whyNotClosed_6 : decode cX0_whyNotClosed 6 = .ok (.astore_n 2, 1) := by decide +kernel
theorem dX0_whyNotClosed_7 : decode cX0_whyNotClosed 7 = .ok (.aload_n 2, 1) := by decide +kernel
theorem dX0_whyNotClosed_8 : decode cX0_whyNotClosed 8 = .ok (.getfield 82, 3) := by decide +kernel
theorem dX0_whyNotClosed_11 : decode cX0_whyNotClosed 11 = .ok (.ifCond .ne 5, 3) := by decide +kernel
theorem dX0_whyNotClosed_14 : decode cX0_whyNotClosed 14 = .ok (.iconst 1, 1) := by decide +kernel
theorem dX0_whyNotClosed_15 : decode cX0_whyNotClosed 15 = .ok (.ireturn, 1) := by decide +kernel
theorem dX0_whyNotClosed_16 : decode cX0_whyNotClosed 16 = .ok (.aload_n 2, 1) := by decide +kernel
theorem dX0_whyNotClosed_17 : decode cX0_whyNotClosed 17 = .ok (.getfield 45, 3) := by decide +kernel
theorem dX0_whyNotClosed_20 : decode cX0_whyNotClosed 20 = .ok (.ifCond .eq 5, 3) := by decide +kernel
theorem dX0_whyNotClosed_23 : decode cX0_whyNotClosed 23 = .ok (.iconst 2, 1) := by decide +kernel
theorem dX0_whyNotClosed_24 : decode cX0_whyNotClosed 24 = .ok (.ireturn, 1) := by decide +kernel
theorem dX0_whyNotClosed_25 : decode cX0_whyNotClosed 25 = .ok (.aload_n 0, 1) := by decide +kernel
theorem dX0_whyNotClosed_26 : decode cX0_whyNotClosed 26 = .ok (.invokevirtual 49, 3) := by decide +kernel
theorem dX0_whyNotClosed_29 : decode cX0_whyNotClosed 29 = .ok (.ifCond .ne 5, 3) := by decide +kernel
theorem dX0_whyNotClosed_32 : decode cX0_whyNotClosed 32 = .ok (.iconst 0, 1) := by decide +kernel
theorem dX0_whyNotClosed_33 : decode cX0_whyNotClosed 33 = .ok (.ireturn, 1) := by decide +kernel
theorem dX0_whyNotClosed_34 : decode cX0_whyNotClosed 34 = .ok (.aload_n 2, 1) := by decide +kernel
theorem dX0_whyNotClosed_35 : decode cX0_whyNotClosed 35 = .ok (.getfield 85, 3) := by decide +kernel
theorem dX0_whyNotClosed_38 : decode cX0_whyNotClosed 38 = .ok (.aload_n 0, 1) := by decide +kernel
theorem dX0_whyNotClosed_39 : decode cX0_whyNotClosed 39 = .ok (.invokevirtual 88, 3) := by decide +kernel
theorem dX0_whyNotClosed_42 : decode cX0_whyNotClosed 42 = .ok (.isub, 1) := by decide +kernel
theorem dX0_whyNotClosed_43 : decode cX0_whyNotClosed 43 = .ok (.invokestatic 91, 3) := by decide +kernel
theorem dX0_whyNotClosed_46 : decode cX0_whyNotClosed 46 = .ok (.aload_n 0, 1) := by decide +kernel
theorem dX0_whyNotClosed_47 : decode cX0_whyNotClosed 47 = .ok (.getfield 23, 3) := by decide +kernel
theorem dX0_whyNotClosed_50 : decode cX0_whyNotClosed 50 = .ok (.iconst 2, 1) := by decide +kernel
theorem dX0_whyNotClosed_51 : decode cX0_whyNotClosed 51 = .ok (.iaload, 1) := by decide +kernel
theorem dX0_whyNotClosed_52 : decode cX0_whyNotClosed 52 = .ok (.if_icmp .le 5, 3) := by decide +kernel
theorem dX0_whyNotClosed_55 : decode cX0_whyNotClosed 55 = .ok (.iconst 3, 1) := by decide +kernel
theorem dX0_whyNotClosed_56 : decode cX0_whyNotClosed 56 = .ok (.ireturn, 1) := by decide +kernel
theorem dX0_whyNotClosed_57 : decode cX0_whyNotClosed 57 = .ok (.aload_n 2, 1) := by decide +kernel
theorem dX0_whyNotClosed_58 : decode cX0_whyNotClosed 58 = .ok (.invokevirtual 94, 3) := by decide +kernel
theorem dX0_whyNotClosed_61 : decode cX0_whyNotClosed 61 = .ok (.aload_n 0, 1) := by decide +kernel
theorem dX0_whyNotClosed_62 : decode cX0_whyNotClosed 62 = .ok (.getfield 23, 3) := by decide +kernel
theorem dX0_whyNotClosed_65 : decode cX0_whyNotClosed 65 = .ok (.iconst 3, 1) := by decide +kernel
theorem dX0_whyNotClosed_66 : decode cX0_whyNotClosed 66 = .ok (.iaload, 1) := by decide +kernel
theorem dX0_whyNotClosed_67 : decode cX0_whyNotClosed 67 = .ok (.if_icmp .le 7, 3) := by decide +kernel
theorem dX0_whyNotClosed_70 : decode cX0_whyNotClosed 70 = .ok (.iconst 4, 1) := by decide +kernel
theorem dX0_whyNotClosed_71 : decode cX0_whyNotClosed 71 = .ok (.goto 4, 3) := by decide +kernel
theorem dX0_whyNotClosed_74 : decode cX0_whyNotClosed 74 = .ok (.iconst 0, 1) := by decide +kernel
theorem dX0_whyNotClosed_75 : decode cX0_whyNotClosed 75 = .ok (.ireturn, 1) := by decide +kernel
set_option maxRecDepth 100000 in
theorem ggX0_passTicks_X0_tick : GoodIn wsX0_passTicks wsX0_tick := goodIn_r _ [5, 6, 7, 8, 9, 10, 11, 4, 12, 13, 14, 15, 16, 17, 18, 19, 20, 21, 22, 23, 24, 25, 26, 27, 28, 29, 30, 31, 32, 33, 34, 35, 36, 37, 38, 39, 40, 41, 42, 43, 44, 45, 46, 47, 48, 49, 50, 51, 52, 53, 54, 55, 56, 57, 58, 59, 60, 61, 62, 63, 64, 65, 66, 67, 68, 69, 70, 71, 72, 73, 74, 75, 76, 77, 78, 79, 80, 81, 82, 83, 84, 85, 86, 87, 88, 89, 90, 91, 92, 93, 94, 95, 96, 97, 98, 99, 100, 101, 102, 103, 104, 105] rfl (by decide +kernel)
set_option maxRecDepth 100000 in
theorem gX0_passTicks_X0_tick : GoodIn wsX0_passTicks (wsV RX0 97 RX0 yX0_tick wsX0_tick) := goodIn_app (goodIn_r _ [1, 2, 3, 4] rfl (by decide +kernel)) ggX0_passTicks_X0_tick
theorem dX0_passTicks_0 : decode cX0_passTicks 0 = .ok (.iconst 0, 1) := by decide +kernel
theorem dX0_passTicks_1 : decode cX0_passTicks 1 = .ok (.istore_n 2, 1) := by decide +kernel
theorem dX0_passTicks_2 : decode cX0_passTicks 2 = .ok (.iconst 0, 1) := by decide +kernel
theorem dX0_passTicks_3 : decode cX0_passTicks 3 = .ok (.istore_n 3, 1) := by decide +kernel
theorem dX0_passTicks_4 : decode cX0_passTicks 4 = .ok (.iload_n 3, 1) := by decide +kernel
theorem dX0_passTicks_5 : decode cX0_passTicks 5 = .ok (.iload_n 1, 1) := by decide +kernel
theorem dX0_passTicks_6 : decode cX0_passTicks 6 = .ok (.if_icmp .ge 16, 3) := by decide +kernel
theorem dX0_passTicks_9 : decode cX0_passTicks 9 = .ok (.iload_n 2, 1) := by decide +kernel
theorem dX0_passTicks_10 : decode cX0_passTicks 10 = .ok (.aload_n 0, 1) := by decide +kernel
theorem dX0_passTicks_11 : decode cX0_passTicks 11 = .ok (.invokevirtual 97, 3) := by decide +kernel
theorem dX0_passTicks_14 : decode cX0_passTicks 14 = .ok (.iadd, 1) := by decide +kernel
theorem dX0_passTicks_15 : decode cX0_passTicks 15 = .ok (.istore_n 2, 1) := by decide +kernel
theorem dX0_passTicks_16 : decode cX0_passTicks 16 = .ok (.iinc 3 1, 3) := by decide +kernel
theorem dX0_passTicks_19 : decode cX0_passTicks 19 = .ok (.goto (-15), 3) := by decide +kernel
theorem dX0_passTicks_22 : decode cX0_passTicks 22 = .ok (.iload_n 2, 1) := by decide +kernel
theorem dX0_passTicks_23 : decode cX0_passTicks 23 = .ok (.ireturn, 1) := by decide +kernel
set_option maxRecDepth 100000 in
theorem ggX0_tick_X0_frequency : GoodIn wsX0_tick wsX0_frequency := goodIn_r _ [8, 9, 10, 11, 7, 12, 2, 13, 14, 15, 16, 17, 18, 19, 20, 21, 22, 23, 24, 25, 26, 27, 28, 29, 30, 31, 32, 33, 84, 85, 86, 87, 88, 89, 90, 91, 92, 93, 94, 95, 96, 97, 98, 99, 100, 101] rfl (by decide +kernel)
set_option maxRecDepth 100000 in
theorem gX0_tick_X0_frequency : GoodIn wsX0_tick (wsV RX0 88 RX0 yX0_frequency wsX0_frequency) := goodIn_app (goodIn_r _ [4, 5, 6, 7] rfl (by decide +kernel)) ggX0_tick_X0_frequency
set_option maxRecDepth 100000 in
theorem ggX0_tick_X0_lack : GoodIn wsX0_tick wsX0_lack := goodIn_r _ [37, 38, 39, 40, 41, 14, 15, 16, 7, 17, 18, 19, 20, 9, 10, 11, 12, 2, 13, 21, 22, 23, 24, 25, 26, 27, 28, 29, 30, 31, 32, 33, 84, 85, 86, 87, 88, 99, 100, 101, 89, 90, 91, 92, 93, 94, 95, 96, 97, 98] rfl (by decide +kernel)
set_option maxRecDepth 100000 in
theorem gX0_tick_X0_lack : GoodIn wsX0_tick (wsV RX0 100 RX0 yX0_lack wsX0_lack) := goodIn_app (goodIn_r _ [34, 35, 36, 7] rfl (by decide +kernel)) ggX0_tick_X0_lack
set_option maxRecDepth 100000 in
theorem ggX0_tick_X0_demand : GoodIn wsX0_tick wsX0_demand := goodIn_r _ [17, 18, 19, 20, 9, 10, 11, 7, 12, 2, 13, 84, 85, 86, 87, 88, 99, 100, 101, 89, 90, 91, 92, 93, 94, 95, 96, 97, 98] rfl (by decide +kernel)
set_option maxRecDepth 100000 in
theorem gX0_tick_X0_demand : GoodIn wsX0_tick (wsV RX0 63 RX0 yX0_demand wsX0_demand) := goodIn_app (goodIn_r _ [14, 15, 16, 7] rfl (by decide +kernel)) ggX0_tick_X0_demand
set_option maxRecDepth 100000 in
theorem ggX0_tick_X0_power : GoodIn wsX0_tick wsX0_power := goodIn_r _ [45, 2, 38, 39, 40, 41, 25, 26, 27, 28, 29, 30, 31, 32, 33, 46, 47, 48, 7, 49, 13, 21, 22, 23, 24, 14, 15, 16, 17, 18, 19, 20, 9, 10, 11, 12, 84, 85, 86, 87, 88, 89, 90, 91, 92, 93, 94, 95, 96, 97, 98, 99, 100, 101] rfl (by decide +kernel)
set_option maxRecDepth 100000 in
theorem gX0_tick_X0_power : GoodIn wsX0_tick (wsV RX0 79 RX0 yX0_power wsX0_power) := goodIn_app (goodIn_r _ [42, 43, 44, 7] rfl (by decide +kernel)) ggX0_tick_X0_power
set_option maxRecDepth 100000 in
theorem ggX0_tick_X1_tick : GoodIn wsX0_tick wsX1_tick := goodIn_r _ [53, 54, 30, 33, 55, 56, 57, 58, 32, 59, 60, 61, 62, 89, 90, 91, 92, 93, 94, 95, 96, 97, 98] rfl (by decide +kernel)
set_option maxRecDepth 100000 in
theorem gX0_tick_X1_tick : GoodIn wsX0_tick (wsV RX0 103 RX1 yX1_tick wsX1_tick) := goodIn_app (goodIn_r _ [50, 51, 52, 28] rfl (by decide +kernel)) ggX0_tick_X1_tick
set_option maxRecDepth 100000 in
theorem ggX0_tick_X0_shed : GoodIn wsX0_tick wsX0_shed := goodIn_r _ [66, 18, 19, 20, 67, 84, 85, 86, 87, 88, 99, 100, 101] rfl (by decide +kernel)
set_option maxRecDepth 100000 in
theorem gX0_tick_X0_shed : GoodIn wsX0_tick (wsV RX0 106 RX0 yX0_shed wsX0_shed) := goodIn_app (goodIn_r _ [63, 64, 65, 7] rfl (by decide +kernel)) ggX0_tick_X0_shed
set_option maxRecDepth 100000 in
theorem ggX0_tick_X0_trip : GoodIn wsX0_tick wsX0_trip := goodIn_r _ [71, 2, 72, 73, 74, 75, 76, 77, 78, 28, 79, 30, 80, 81, 82, 83, 58, 55, 56, 84, 85, 86, 87, 88, 89, 90, 91, 92, 93, 94, 95, 96, 97, 98] rfl (by decide +kernel)
set_option maxRecDepth 100000 in
theorem gX0_tick_X0_trip : GoodIn wsX0_tick (wsV RX0 109 RX0 yX0_trip wsX0_trip) := goodIn_app (goodIn_r _ [68, 69, 70, 7] rfl (by decide +kernel)) ggX0_tick_X0_trip
theorem dX0_tick_0 : decode cX0_tick 0 = .ok (.aload_n 0, 1) := by decide +kernel
theorem dX0_tick_1 : decode cX0_tick 1 = .ok (.invokevirtual 88, 3) := by decide +kernel
theorem dX0_tick_4 : decode cX0_tick 4 = .ok (.istore_n 1, 1) := by decide +kernel
theorem dX0_tick_5 : decode cX0_tick 5 = .ok (.aload_n 0, 1) := by decide +kernel
theorem dX0_tick_6 : decode cX0_tick 6 = .ok (.iload_n 1, 1) := by decide +kernel
theorem dX0_tick_7 : decode cX0_tick 7 = .ok (.invokevirtual 100, 3) := by decide +kernel
theorem dX0_tick_10 : decode cX0_tick 10 = .ok (.istore_n 2, 1) := by decide +kernel
theorem dX0_tick_11 : decode cX0_tick 11 = .ok (.aload_n 0, 1) := by decide +kernel
theorem dX0_tick_12 : decode cX0_tick 12 = .ok (.dup, 1) := by decide +kernel
theorem dX0_tick_13 : decode cX0_tick 13 = .ok (.getfield 42, 3) := by decide +kernel
theorem dX0_tick_16 : decode cX0_tick 16 = .ok (.aload_n 0, 1) := by decide +kernel
theorem dX0_tick_17 : decode cX0_tick 17 = .ok (.invokevirtual 63, 3) := by decide +kernel
theorem dX0_tick_20 : decode cX0_tick 20 = .ok (.iload_n 2, 1) := by decide +kernel
theorem dX0_tick_21 : decode cX0_tick 21 = .ok (.isub, 1) := by decide +kernel
theorem dX0_tick_22 : decode cX0_tick 22 = .ok (.iadd, 1) := by decide +kernel
theorem dX0_tick_23 : decode cX0_tick 23 = .ok (.putfield 42, 3) := by decide +kernel
theorem dX0_tick_26 : decode cX0_tick 26 = .ok (.iconst 0, 1) := by decide +kernel
theorem dX0_tick_27 : decode cX0_tick 27 = .ok (.istore_n 3, 1) := by decide +kernel
theorem dX0_tick_28 : decode cX0_tick 28 = .ok (.iload_n 3, 1) := by decide +kernel
theorem dX0_tick_29 : decode cX0_tick 29 = .ok (.aload_n 0, 1) := by decide +kernel
theorem dX0_tick_30 : decode cX0_tick 30 = .ok (.getfield 11, 3) := by decide +kernel
theorem dX0_tick_33 : decode cX0_tick 33 = .ok (.arraylength, 1) := by decide +kernel
theorem dX0_tick_34 : decode cX0_tick 34 = .ok (.if_icmp .ge 25, 3) := by decide +kernel
theorem dX0_tick_37 : decode cX0_tick 37 = .ok (.aload_n 0, 1) := by decide +kernel
theorem dX0_tick_38 : decode cX0_tick 38 = .ok (.getfield 11, 3) := by decide +kernel
theorem dX0_tick_41 : decode cX0_tick 41 = .ok (.iload_n 3, 1) := by decide +kernel
theorem dX0_tick_42 : decode cX0_tick 42 = .ok (.aaload, 1) := by decide +kernel
theorem dX0_tick_43 : decode cX0_tick 43 = .ok (.aload_n 0, 1) := by decide +kernel
theorem dX0_tick_44 : decode cX0_tick 44 = .ok (.iload_n 3, 1) := by decide +kernel
theorem dX0_tick_45 : decode cX0_tick 45 = .ok (.iload_n 1, 1) := by decide +kernel
theorem dX0_tick_46 : decode cX0_tick 46 = .ok (.invokevirtual 79, 3) := by decide +kernel
theorem dX0_tick_49 : decode cX0_tick 49 = .ok (.iload_n 1, 1) := by decide +kernel
theorem dX0_tick_50 : decode cX0_tick 50 = .ok (.invokevirtual 103, 3) := by decide +kernel
theorem dX0_tick_53 : decode cX0_tick 53 = .ok (.iinc 3 1, 3) := by decide +kernel
theorem dX0_tick_56 : decode cX0_tick 56 = .ok (.goto (-28), 3) := by decide +kernel
theorem dX0_tick_59 : decode cX0_tick 59 = .ok (.iload_n 2, 1) := by decide +kernel
theorem dX0_tick_60 : decode cX0_tick 60 = .ok (.ifCond .le 7, 3) := by decide +kernel
theorem dX0_tick_63 : decode cX0_tick 63 = .ok (.aload_n 0, 1) := by decide +kernel
theorem dX0_tick_64 : decode cX0_tick 64 = .ok (.invokevirtual 106, 3) := by decide +kernel
theorem dX0_tick_67 : decode cX0_tick 67 = .ok (.aload_n 0, 1) := by decide +kernel
theorem dX0_tick_68 : decode cX0_tick 68 = .ok (.dup, 1) := by decide +kernel
theorem dX0_tick_69 : decode cX0_tick 69 = .ok (.getfield 38, 3) := by decide +kernel
theorem dX0_tick_72 : decode cX0_tick 72 = .ok (.iconst 1, 1) := by decide +kernel
theorem dX0_tick_73 : decode cX0_tick 73 = .ok (.iadd, 1) := by decide +kernel
theorem dX0_tick_74 : decode cX0_tick 74 = .ok (.putfield 38, 3) := by decide +kernel
theorem dX0_tick_77 : decode cX0_tick 77 = .ok (.aload_n 0, 1) := by decide +kernel
theorem dX0_tick_78 : decode cX0_tick 78 = .ok (.invokevirtual 109, 3) := by decide +kernel
theorem dX0_tick_81 : decode cX0_tick 81 = .ok (.ireturn, 1) := by decide +kernel
theorem dX0_shed_0 : decode cX0_shed 0 = .ok (.aload_n 0, 1) := by decide +kernel
theorem dX0_shed_1 : decode cX0_shed 1 = .ok (.getfield 19, 3) := by decide +kernel
theorem dX0_shed_4 : decode cX0_shed 4 = .ok (.arraylength, 1) := by decide +kernel
theorem dX0_shed_5 : decode cX0_shed 5 = .ok (.iconst 1, 1) := by decide +kernel
theorem dX0_shed_6 : decode cX0_shed 6 = .ok (.isub, 1) := by decide +kernel
theorem dX0_shed_7 : decode cX0_shed 7 = .ok (.istore_n 1, 1) := by decide +kernel
theorem dX0_shed_8 : decode cX0_shed 8 = .ok (.iload_n 1, 1) := by decide +kernel
theorem dX0_shed_9 : decode cX0_shed 9 = .ok (.ifCond .lt 59, 3) := by decide +kernel
theorem dX0_shed_12 : decode cX0_shed 12 = .ok (.aload_n 0, 1) := by decide +kernel
theorem dX0_shed_13 : decode cX0_shed 13 = .ok (.getfield 19, 3) := by decide +kernel
theorem dX0_shed_16 : decode cX0_shed 16 = .ok (.iload_n 1, 1) := by decide +kernel
theorem dX0_shed_17 : decode cX0_shed 17 = .ok (.aaload, 1) := by decide +kernel
theorem dX0_shed_18 : decode cX0_shed 18 = .ok (.getfield 53, 3) := by decide +kernel
theorem dX0_shed_21 : decode cX0_shed 21 = .ok (.ifCond .eq 41, 3) := by decide +kernel
theorem dX0_shed_24 : decode cX0_shed 24 = .ok (.aload_n 0, 1) := by decide +kernel
theorem dX0_shed_25 : decode cX0_shed 25 = .ok (.getfield 19, 3) := by decide +kernel
theorem dX0_shed_28 : decode cX0_shed 28 = .ok (.iload_n 1, 1) := by decide +kernel
theorem dX0_shed_29 : decode cX0_shed 29 = .ok (.aaload, 1) := by decide +kernel
theorem dX0_shed_30 : decode cX0_shed 30 = .ok (.getfield 56, 3) := by decide +kernel
theorem dX0_shed_33 : decode cX0_shed 33 = .ok (.ifCond .le 29, 3) := by decide +kernel
theorem dX0_shed_36 : decode cX0_shed 36 = .ok (.aload_n 0, 1) := by decide +kernel
theorem dX0_shed_37 : decode cX0_shed 37 = .ok (.getfield 19, 3) := by decide +kernel
theorem dX0_shed_40 : decode cX0_shed 40 = .ok (.iload_n 1, 1) := by decide +kernel
theorem dX0_shed_41 : decode cX0_shed 41 = .ok (.aaload, 1) := by decide +kernel
theorem dX0_shed_42 : decode cX0_shed 42 = .ok (.iconst 0, 1) := by decide +kernel
theorem dX0_shed_43 : decode cX0_shed 43 = .ok (.putfield 53, 3) := by decide +kernel
theorem dX0_shed_46 : decode cX0_shed 46 = .ok (.aload_n 0, 1) := by decide +kernel
theorem dX0_shed_47 : decode cX0_shed 47 = .ok (.getfield 19, 3) := by decide +kernel
theorem dX0_shed_50 : decode cX0_shed 50 = .ok (.iload_n 1, 1) := by decide +kernel
theorem dX0_shed_51 : decode cX0_shed 51 = .ok (.aaload, 1) := by decide +kernel
theorem dX0_shed_52 : decode cX0_shed 52 = .ok (.dup, 1) := by decide +kernel
theorem dX0_shed_53 : decode cX0_shed 53 = .ok (.getfield 112, 3) := by decide +kernel
theorem dX0_shed_56 : decode cX0_shed 56 = .ok (.iconst 1, 1) := by decide +kernel
theorem dX0_shed_57 : decode cX0_shed 57 = .ok (.iadd, 1) := by decide +kernel
theorem dX0_shed_58 : decode cX0_shed 58 = .ok (.putfield 112, 3) := by decide +kernel
theorem dX0_shed_61 : decode cX0_shed 61 = .ok (.return_, 1) := by decide +kernel
theorem dX0_shed_62 : decode cX0_shed 62 = .ok (.iinc 1 (-1), 3) := by decide +kernel
theorem dX0_shed_65 : decode cX0_shed 65 = .ok (.goto (-57), 3) := by decide +kernel
theorem dX0_shed_68 : decode cX0_shed 68 = .ok (.return_, 1) := by decide +kernel
set_option maxRecDepth 100000 in
theorem ggX0_trip_X1_openBreaker : GoodIn wsX0_trip wsX1_openBreaker := goodIn_r _ [10, 11, 12, 13, 14, 9, 15, 16, 17, 18, 24, 25, 26, 27, 28, 29, 30, 31, 32, 33] rfl (by decide +kernel)
set_option maxRecDepth 100000 in
theorem gX0_trip_X1_openBreaker : GoodIn wsX0_trip (wsV RX0 121 RX1 yX1_openBreaker wsX1_openBreaker) := goodIn_app (goodIn_r _ [6, 7, 8, 9] rfl (by decide +kernel)) ggX0_trip_X1_openBreaker
theorem dX0_trip_0 : decode cX0_trip 0 = .ok (.iconst 0, 1) := by decide +kernel
theorem dX0_trip_1 : decode cX0_trip 1 = .ok (.istore_n 1, 1) := by decide +kernel
theorem dX0_trip_2 : decode cX0_trip 2 = .ok (.iconst 0, 1) := by decide +kernel
theorem dX0_trip_3 : decode cX0_trip 3 = .ok (.istore_n 2, 1) := by decide +kernel
theorem dX0_trip_4 : decode cX0_trip 4 = .ok (.iload_n 2, 1) := by decide +kernel
theorem dX0_trip_5 : decode cX0_trip 5 = .ok (.aload_n 0, 1) := by decide +kernel
theorem dX0_trip_6 : decode cX0_trip 6 = .ok (.getfield 11, 3) := by decide +kernel
theorem dX0_trip_9 : decode cX0_trip 9 = .ok (.arraylength, 1) := by decide +kernel
theorem dX0_trip_10 : decode cX0_trip 10 = .ok (.if_icmp .ge 59, 3) := by decide +kernel
theorem dX0_trip_13 : decode cX0_trip 13 = .ok (.aload_n 0, 1) := by decide +kernel
theorem dX0_trip_14 : decode cX0_trip 14 = .ok (.getfield 11, 3) := by decide +kernel
theorem dX0_trip_17 : decode cX0_trip 17 = .ok (.iload_n 2, 1) := by decide +kernel
theorem dX0_trip_18 : decode cX0_trip 18 = .ok (.aaload, 1) := by decide +kernel
theorem dX0_trip_19 : decode cX0_trip 19 = .ok (.astore_n 3, 1) := by decide +kernel
theorem dX0_trip_20 : decode cX0_trip 20 = .ok (.aload_n 3, 1) := by decide +kernel
theorem dX0_trip_21 : decode cX0_trip 21 = .ok (.getfield 115, 3) := by decide +kernel
theorem dX0_trip_24 : decode cX0_trip 24 = .ok (.aload_n 0, 1) := by decide +kernel
theorem dX0_trip_25 : decode cX0_trip 25 = .ok (.getfield 23, 3) := by decide +kernel
theorem dX0_trip_28 : decode cX0_trip 28 = .ok (.iconst 0, 1) := by decide +kernel
theorem dX0_trip_29 : decode cX0_trip 29 = .ok (.iaload, 1) := by decide +kernel
theorem dX0_trip_30 : decode cX0_trip 30 = .ok (.if_icmp .ge 16, 3) := by decide +kernel
theorem dX0_trip_33 : decode cX0_trip 33 = .ok (.aload_n 3, 1) := by decide +kernel
theorem dX0_trip_34 : decode cX0_trip 34 = .ok (.getfield 118, 3) := by decide +kernel
theorem dX0_trip_37 : decode cX0_trip 37 = .ok (.aload_n 0, 1) := by decide +kernel
theorem dX0_trip_38 : decode cX0_trip 38 = .ok (.getfield 23, 3) := by decide +kernel
theorem dX0_trip_41 : decode cX0_trip 41 = .ok (.iconst 1, 1) := by decide +kernel
theorem dX0_trip_42 : decode cX0_trip 42 = .ok (.iaload, 1) := by decide +kernel
theorem dX0_trip_43 : decode cX0_trip 43 = .ok (.if_icmp .lt 20, 3) := by decide +kernel
theorem dX0_trip_46 : decode cX0_trip 46 = .ok (.aload_n 3, 1) := by decide +kernel
theorem dX0_trip_47 : decode cX0_trip 47 = .ok (.invokevirtual 121, 3) := by decide +kernel
theorem dX0_trip_50 : decode cX0_trip 50 = .ok (.aload_n 3, 1) := by decide +kernel
theorem dX0_trip_51 : decode cX0_trip 51 = .ok (.dup, 1) := by decide +kernel
theorem dX0_trip_52 : decode cX0_trip 52 = .ok (.getfield 124, 3) := by decide +kernel
theorem dX0_trip_55 : decode cX0_trip 55 = .ok (.iconst 1, 1) := by decide +kernel
theorem dX0_trip_56 : decode cX0_trip 56 = .ok (.iadd, 1) := by decide +kernel
theorem dX0_trip_57 : decode cX0_trip 57 = .ok (.putfield 124, 3) := by decide +kernel
theorem dX0_trip_60 : decode cX0_trip 60 = .ok (.iinc 1 1, 3) := by decide +kernel
theorem dX0_trip_63 : decode cX0_trip 63 = .ok (.iinc 2 1, 3) := by decide +kernel
theorem dX0_trip_66 : decode cX0_trip 66 = .ok (.goto (-62), 3) := by decide +kernel
theorem dX0_trip_69 : decode cX0_trip 69 = .ok (.iload_n 1, 1) := by decide +kernel
theorem dX0_trip_70 : decode cX0_trip 70 = .ok (.ireturn, 1) := by decide +kernel
set_option maxRecDepth 100000 in
theorem ggX0_running_X5_oneIf : GoodIn wsX0_running wsX5_oneIf := goodIn_r _ [5] rfl (by decide +kernel)
set_option maxRecDepth 100000 in
theorem gX0_running_X5_oneIf_n127 : GoodIn wsX0_running (wsX5_oneIf) := ggX0_running_X5_oneIf
theorem dX0_running_0 : decode cX0_running 0 = .ok (.iconst 0, 1) := by decide +kernel
theorem dX0_running_1 : decode cX0_running 1 = .ok (.istore_n 1, 1) := by decide +kernel
theorem dX0_running_2 : decode cX0_running 2 = .ok (.iconst 0, 1) := by decide +kernel
theorem dX0_running_3 : decode cX0_running 3 = .ok (.istore_n 2, 1) := by decide +kernel
theorem dX0_running_4 : decode cX0_running 4 = .ok (.iload_n 2, 1) := by decide +kernel
theorem dX0_running_5 : decode cX0_running 5 = .ok (.aload_n 0, 1) := by decide +kernel
theorem dX0_running_6 : decode cX0_running 6 = .ok (.getfield 11, 3) := by decide +kernel
theorem dX0_running_9 : decode cX0_running 9 = .ok (.arraylength, 1) := by decide +kernel
theorem dX0_running_10 : decode cX0_running 10 = .ok (.if_icmp .ge 24, 3) := by decide +kernel
theorem dX0_running_13 : decode cX0_running 13 = .ok (.iload_n 1, 1) := by decide +kernel
theorem dX0_running_14 : decode cX0_running 14 = .ok (.aload_n 0, 1) := by decide +kernel
theorem dX0_running_15 : decode cX0_running 15 = .ok (.getfield 11, 3) := by decide +kernel
theorem dX0_running_18 : decode cX0_running 18 = .ok (.iload_n 2, 1) := by decide +kernel
theorem dX0_running_19 : decode cX0_running 19 = .ok (.aaload, 1) := by decide +kernel
theorem dX0_running_20 : decode cX0_running 20 = .ok (.getfield 82, 3) := by decide +kernel
theorem dX0_running_23 : decode cX0_running 23 = .ok (.invokestatic 127, 3) := by decide +kernel
theorem dX0_running_26 : decode cX0_running 26 = .ok (.iadd, 1) := by decide +kernel
theorem dX0_running_27 : decode cX0_running 27 = .ok (.istore_n 1, 1) := by decide +kernel
theorem dX0_running_28 : decode cX0_running 28 = .ok (.iinc 2 1, 3) := by decide +kernel
theorem dX0_running_31 : decode cX0_running 31 = .ok (.goto (-27), 3) := by decide +kernel
theorem dX0_running_34 : decode cX0_running 34 = .ok (.iload_n 1, 1) := by decide +kernel
theorem dX0_running_35 : decode cX0_running 35 = .ok (.ireturn, 1) := by decide +kernel
set_option maxRecDepth 100000 in
theorem ggX0_closedBreakers_X5_oneIf : GoodIn wsX0_closedBreakers wsX5_oneIf := goodIn_r _ [5] rfl (by decide +kernel)
set_option maxRecDepth 100000 in
theorem gX0_closedBreakers_X5_oneIf_n127 : GoodIn wsX0_closedBreakers (wsX5_oneIf) := ggX0_closedBreakers_X5_oneIf
theorem dX0_closedBreakers_0 : decode cX0_closedBreakers 0 = .ok (.iconst 0, 1) := by decide +kernel
theorem dX0_closedBreakers_1 : decode cX0_closedBreakers 1 = .ok (.istore_n 1, 1) := by decide +kernel
theorem dX0_closedBreakers_2 : decode cX0_closedBreakers 2 = .ok (.iconst 0, 1) := by decide +kernel
theorem dX0_closedBreakers_3 : decode cX0_closedBreakers 3 = .ok (.istore_n 2, 1) := by decide +kernel
theorem dX0_closedBreakers_4 : decode cX0_closedBreakers 4 = .ok (.iload_n 2, 1) := by decide +kernel
theorem dX0_closedBreakers_5 : decode cX0_closedBreakers 5 = .ok (.aload_n 0, 1) := by decide +kernel
theorem dX0_closedBreakers_6 : decode cX0_closedBreakers 6 = .ok (.getfield 11, 3) := by decide +kernel
theorem dX0_closedBreakers_9 : decode cX0_closedBreakers 9 = .ok (.arraylength, 1) := by decide +kernel
theorem dX0_closedBreakers_10 : decode cX0_closedBreakers 10 = .ok (.if_icmp .ge 24, 3) := by decide +kernel
theorem dX0_closedBreakers_13 : decode cX0_closedBreakers 13 = .ok (.iload_n 1, 1) := by decide +kernel
theorem dX0_closedBreakers_14 : decode cX0_closedBreakers 14 = .ok (.aload_n 0, 1) := by decide +kernel
theorem dX0_closedBreakers_15 : decode cX0_closedBreakers 15 = .ok (.getfield 11, 3) := by decide +kernel
theorem dX0_closedBreakers_18 : decode cX0_closedBreakers 18 = .ok (.iload_n 2, 1) := by decide +kernel
theorem dX0_closedBreakers_19 : decode cX0_closedBreakers 19 = .ok (.aaload, 1) := by decide +kernel
theorem dX0_closedBreakers_20 : decode cX0_closedBreakers 20 = .ok (.getfield 45, 3) := by decide +kernel
theorem dX0_closedBreakers_23 : decode cX0_closedBreakers 23 = .ok (.invokestatic 127, 3) := by decide +kernel
theorem dX0_closedBreakers_26 : decode cX0_closedBreakers 26 = .ok (.iadd, 1) := by decide +kernel
theorem dX0_closedBreakers_27 : decode cX0_closedBreakers 27 = .ok (.istore_n 1, 1) := by decide +kernel
theorem dX0_closedBreakers_28 : decode cX0_closedBreakers 28 = .ok (.iinc 2 1, 3) := by decide +kernel
theorem dX0_closedBreakers_31 : decode cX0_closedBreakers 31 = .ok (.goto (-27), 3) := by decide +kernel
theorem dX0_closedBreakers_34 : decode cX0_closedBreakers 34 = .ok (.iload_n 1, 1) := by decide +kernel
theorem dX0_closedBreakers_35 : decode cX0_closedBreakers 35 = .ok (.ireturn, 1) := by decide +kernel
theorem dX0_ratingsClosed_0 : decode cX0_ratingsClosed 0 = .ok (.iconst 0, 1) := by decide +kernel
theorem dX0_ratingsClosed_1 : decode cX0_ratingsClosed 1 = .ok (.istore_n 1, 1) := by decide +kernel
theorem dX0_ratingsClosed_2 : decode cX0_ratingsClosed 2 = .ok (.iconst 0, 1) := by decide +kernel
theorem dX0_ratingsClosed_3 : decode cX0_ratingsClosed 3 = .ok (.istore_n 2, 1) := by decide +kernel
theorem dX0_ratingsClosed_4 : decode cX0_ratingsClosed 4 = .ok (.iload_n 2, 1) := by decide +kernel
theorem dX0_ratingsClosed_5 : decode cX0_ratingsClosed 5 = .ok (.aload_n 0, 1) := by decide +kernel
theorem dX0_ratingsClosed_6 : decode cX0_ratingsClosed 6 = .ok (.getfield 11, 3) := by decide +kernel
theorem dX0_ratingsClosed_9 : decode cX0_ratingsClosed 9 = .ok (.arraylength, 1) := by decide +kernel
theorem dX0_ratingsClosed_10 : decode cX0_ratingsClosed 10 = .ok (.if_icmp .ge 33, 3) := by decide +kernel
theorem dX0_ratingsClosed_13 : decode cX0_ratingsClosed 13 = .ok (.aload_n 0, 1) := by decide +kernel
theorem dX0_ratingsClosed_14 : decode cX0_ratingsClosed 14 = .ok (.getfield 11, 3) := by decide +kernel
theorem dX0_ratingsClosed_17 : decode cX0_ratingsClosed 17 = .ok (.iload_n 2, 1) := by decide +kernel
theorem dX0_ratingsClosed_18 : decode cX0_ratingsClosed 18 = .ok (.aaload, 1) := by decide +kernel
theorem dX0_ratingsClosed_19 : decode cX0_ratingsClosed 19 = .ok (.getfield 45, 3) := by decide +kernel
theorem dX0_ratingsClosed_22 : decode cX0_ratingsClosed 22 = .ok (.ifCond .eq 15, 3) := by decide +kernel
theorem dX0_ratingsClosed_25 : decode cX0_ratingsClosed 25 = .ok (.iload_n 1, 1) := by decide +kernel
theorem dX0_ratingsClosed_26 : decode cX0_ratingsClosed 26 = .ok (.aload_n 0, 1) := by decide +kernel
theorem dX0_ratingsClosed_27 : decode cX0_ratingsClosed 27 = .ok (.getfield 11, 3) := by decide +kernel
theorem dX0_ratingsClosed_30 : decode cX0_ratingsClosed 30 = .ok (.iload_n 2, 1) := by decide +kernel
theorem dX0_ratingsClosed_31 : decode cX0_ratingsClosed 31 = .ok (.aaload, 1) := by decide +kernel
theorem dX0_ratingsClosed_32 : decode cX0_ratingsClosed 32 = .ok (.getfield 131, 3) := by decide +kernel
theorem dX0_ratingsClosed_35 : decode cX0_ratingsClosed 35 = .ok (.iadd, 1) := by decide +kernel
theorem dX0_ratingsClosed_36 : decode cX0_ratingsClosed 36 = .ok (.istore_n 1, 1) := by decide +kernel
theorem dX0_ratingsClosed_37 : decode cX0_ratingsClosed 37 = .ok (.iinc 2 1, 3) := by decide +kernel
theorem dX0_ratingsClosed_40 : decode cX0_ratingsClosed 40 = .ok (.goto (-36), 3) := by decide +kernel
theorem dX0_ratingsClosed_43 : decode cX0_ratingsClosed 43 = .ok (.iload_n 1, 1) := by decide +kernel
theorem dX0_ratingsClosed_44 : decode cX0_ratingsClosed 44 = .ok (.ireturn, 1) := by decide +kernel
theorem dX0_trips_0 : decode cX0_trips 0 = .ok (.iconst 0, 1) := by decide +kernel
theorem dX0_trips_1 : decode cX0_trips 1 = .ok (.istore_n 1, 1) := by decide +kernel
theorem dX0_trips_2 : decode cX0_trips 2 = .ok (.iconst 0, 1) := by decide +kernel
theorem dX0_trips_3 : decode cX0_trips 3 = .ok (.istore_n 2, 1) := by decide +kernel
theorem dX0_trips_4 : decode cX0_trips 4 = .ok (.iload_n 2, 1) := by decide +kernel
theorem dX0_trips_5 : decode cX0_trips 5 = .ok (.aload_n 0, 1) := by decide +kernel
theorem dX0_trips_6 : decode cX0_trips 6 = .ok (.getfield 11, 3) := by decide +kernel
theorem dX0_trips_9 : decode cX0_trips 9 = .ok (.arraylength, 1) := by decide +kernel
theorem dX0_trips_10 : decode cX0_trips 10 = .ok (.if_icmp .ge 21, 3) := by decide +kernel
theorem dX0_trips_13 : decode cX0_trips 13 = .ok (.iload_n 1, 1) := by decide +kernel
theorem dX0_trips_14 : decode cX0_trips 14 = .ok (.aload_n 0, 1) := by decide +kernel
theorem dX0_trips_15 : decode cX0_trips 15 = .ok (.getfield 11, 3) := by decide +kernel
theorem dX0_trips_18 : decode cX0_trips 18 = .ok (.iload_n 2, 1) := by decide +kernel
theorem dX0_trips_19 : decode cX0_trips 19 = .ok (.aaload, 1) := by decide +kernel
theorem dX0_trips_20 : decode cX0_trips 20 = .ok (.getfield 124, 3) := by decide +kernel
theorem dX0_trips_23 : decode cX0_trips 23 = .ok (.iadd, 1) := by decide +kernel
theorem dX0_trips_24 : decode cX0_trips 24 = .ok (.istore_n 1, 1) := by decide +kernel
theorem dX0_trips_25 : decode cX0_trips 25 = .ok (.iinc 2 1, 3) := by decide +kernel
theorem dX0_trips_28 : decode cX0_trips 28 = .ok (.goto (-24), 3) := by decide +kernel
theorem dX0_trips_31 : decode cX0_trips 31 = .ok (.iload_n 1, 1) := by decide +kernel
theorem dX0_trips_32 : decode cX0_trips 32 = .ok (.ireturn, 1) := by decide +kernel
theorem dX0_sheds_0 : decode cX0_sheds 0 = .ok (.iconst 0, 1) := by decide +kernel
theorem dX0_sheds_1 : decode cX0_sheds 1 = .ok (.istore_n 1, 1) := by decide +kernel
theorem dX0_sheds_2 : decode cX0_sheds 2 = .ok (.iconst 0, 1) := by decide +kernel
theorem dX0_sheds_3 : decode cX0_sheds 3 = .ok (.istore_n 2, 1) := by decide +kernel
theorem dX0_sheds_4 : decode cX0_sheds 4 = .ok (.iload_n 2, 1) := by decide +kernel
theorem dX0_sheds_5 : decode cX0_sheds 5 = .ok (.aload_n 0, 1) := by decide +kernel
theorem dX0_sheds_6 : decode cX0_sheds 6 = .ok (.getfield 19, 3) := by decide +kernel
theorem dX0_sheds_9 : decode cX0_sheds 9 = .ok (.arraylength, 1) := by decide +kernel
theorem dX0_sheds_10 : decode cX0_sheds 10 = .ok (.if_icmp .ge 21, 3) := by decide +kernel
theorem dX0_sheds_13 : decode cX0_sheds 13 = .ok (.iload_n 1, 1) := by decide +kernel
theorem dX0_sheds_14 : decode cX0_sheds 14 = .ok (.aload_n 0, 1) := by decide +kernel
theorem dX0_sheds_15 : decode cX0_sheds 15 = .ok (.getfield 19, 3) := by decide +kernel
theorem dX0_sheds_18 : decode cX0_sheds 18 = .ok (.iload_n 2, 1) := by decide +kernel
theorem dX0_sheds_19 : decode cX0_sheds 19 = .ok (.aaload, 1) := by decide +kernel
theorem dX0_sheds_20 : decode cX0_sheds 20 = .ok (.getfield 112, 3) := by decide +kernel
theorem dX0_sheds_23 : decode cX0_sheds 23 = .ok (.iadd, 1) := by decide +kernel
theorem dX0_sheds_24 : decode cX0_sheds 24 = .ok (.istore_n 1, 1) := by decide +kernel
theorem dX0_sheds_25 : decode cX0_sheds 25 = .ok (.iinc 2 1, 3) := by decide +kernel
theorem dX0_sheds_28 : decode cX0_sheds 28 = .ok (.goto (-24), 3) := by decide +kernel
theorem dX0_sheds_31 : decode cX0_sheds 31 = .ok (.iload_n 1, 1) := by decide +kernel
theorem dX0_sheds_32 : decode cX0_sheds 32 = .ok (.ireturn, 1) := by decide +kernel
end
section
set_option maxHeartbeats 4000000 in
set_option maxRecDepth 100000 in
theorem c_X0_alive (l : Launch) (D : va_G) (G : Nat → ClassId) (b : Nat → Nat) (R : Nat → Int32) (H : Heap) (hB : BD D G b R H) : Met l yX0_alive wsX0_alive ({ frames := 0, cells := 0, slots := 0, locals := 0 } : Room) (va_Pc [.ref (b 0)] (CX D G H)) (QI nA (fun r h => H = h ∧ alv R = r)) 0 0 (nA) := by
  refine Met.ofW (cc := cX0_alive) (maxL := 2) (ret := (some .boolean)) (by decide) rfl ?_
  intro p e s m args below meth c s₁ B hml hv
  obtain ⟨rfl, rfl, hK, hN⟩ := hv
  have hx := B.exec
  have hb := B.bytes
  have hr := B.returns
  have hts := atoms_spec (ws := wsX0_alive) B.pre
  have hown : s.vm.findClass RX0 = some m.cls := findClass_of_methodNamed B.named
  have hlocks := B.notSynchronized
  have hF : CallFix p m c cX0_alive 2 s ([.ref (b 0)] : List Value).toArray wsX0_alive RX0 := ⟨hx, hb, hml, hown, hts⟩
  have hS : va_S (nA) s.heap s.heap [] := va_S.rf
  have hl := lv_entry ([.ref (b 0)]) (n := 2) (Nat.le_of_ble_eq_true rfl)
  rw [lg_entry_eq]
  generalize (lg_sl ([.ref (b 0)]) ++ List.replicate (2 - (lg_sl ([.ref (b 0)])).length) Slot.unset).toArray = ls at hl ⊢
  have hl : lv_has ls 2 [(0, .ref (b 0))] := hl
  refine lv_iconst (v := 0) hx hb dX0_alive_0 (by decide) ?_
  refine lv_istore_n (lv' := [(1, .int 0), (0, .ref (b 0))]) hx hb dX0_alive_1 rfl hl (by decide) rfl (fun ls hl => ?_)
  have loop2 : ∀ (n : Nat) (i : Nat) (_ : i + n = 3) (_ : ∀ j, j < i → R (12 + 10 * j) = 0) (locs : List Loc) (_ : va_S (nA) s.heap s.heap locs) (ls : Array Slot) (_ : lv_has ls 2 [(0, .ref (b 0)), (1, .int (nI i))]), W p l e (headSpec wsX0_alive ({ frames := 0, cells := 0, slots := 0, locals := 0 } : Room)).room s m ([.ref (b 0)] : List Value).toArray below meth c s.heap locs 0 0 (MQ below (QI nA (fun r h => s.heap = h ∧ alv R = r)) ([.ref (b 0)] : List Value).toArray s 0 0 (nA)) (F0 m 2 ls []) := by
    intro n
    induction n with
    | zero =>
      intro i hin hz locs hS ls hl
      have hi9 : i = 3 := by omega
      refine lv_iload_n hx hb dX0_alive_2 rfl (lv_at hl 1 rfl) ?_
      refine lv_aload_n hx hb dX0_alive_3 rfl (lv_at hl 0 rfl) ?_
      refine dp_get hx hb hts (dp_hin 3 rfl) hown hK hB.1 rfl 0 (by decide) (hts (.fieldLink RX0 11 "DroopBoard$Board" "diesels" "[LDroopBoard$Diesel;") (List.mem_of_getElem? (i := 1) rfl)) rfl dX0_alive_4 ?_
      refine dp_alen hx hb hK hB.2.1 1 rfl dX0_alive_7 ?_
      refine lv_icmp_ge (tgt := 31) hx hb dX0_alive_8 (by decide) (fun c1 => ?_) (fun c1 => absurd (nI_le (a := 3) (b := i) (by omega) (by omega)) c1)
      refine lv_iconst (v := 0) hx hb dX0_alive_31 (by decide) ?_
      exact W.zret (ty := .boolean) hx hb hr rfl (fun t ht hW => ⟨⟨0, s.heap, rfl, ⟨rfl, by simp [alv, hz 0 (by omega), hz 1 (by omega), hz 2 (by omega)]⟩, ht⟩, hS.F ht⟩) hS.2.2 dX0_alive_32
    | succ n ih2 =>
      intro i hin hz locs hS ls hl
      refine lv_iload_n hx hb dX0_alive_2 rfl (lv_at hl 1 rfl) ?_
      refine lv_aload_n hx hb dX0_alive_3 rfl (lv_at hl 0 rfl) ?_
      refine dp_get hx hb hts (dp_hin 3 rfl) hown hK hB.1 rfl 0 (by decide) (hts (.fieldLink RX0 11 "DroopBoard$Board" "diesels" "[LDroopBoard$Diesel;") (List.mem_of_getElem? (i := 1) rfl)) rfl dX0_alive_4 ?_
      refine dp_alen hx hb hK hB.2.1 1 rfl dX0_alive_7 ?_
      refine lv_icmp_ge (tgt := 31) hx hb dX0_alive_8 (by decide) (fun c2 => absurd c2 (nI_ge (a := i) (b := 3) (by omega) (by omega))) (fun c2 => ?_)
      refine lv_aload_n hx hb dX0_alive_11 rfl (lv_at hl 0 rfl) ?_
      refine dp_get hx hb hts (dp_hin 3 rfl) hown hK hB.1 rfl 0 (by decide) (hts (.fieldLink RX0 11 "DroopBoard$Board" "diesels" "[LDroopBoard$Diesel;") (List.mem_of_getElem? (i := 1) rfl)) rfl dX0_alive_12 ?_
      refine lv_iload_n hx hb dX0_alive_15 rfl (lv_at hl 1 rfl) ?_
      refine dp_aald hx hb hK hB.2.1 1 rfl i rfl (by omega) (by decide) rfl dX0_alive_16 ?_
      refine dp_get hx hb hts (dp_hin 8 rfl) hown hK (hB.2.2.2.2.1 i (by omega)) rfl 4 (by decide) (hts (.fieldLink RX0 45 "DroopBoard$Diesel" "closed" "Z") (List.mem_of_getElem? (i := 2) rfl)) rfl dX0_alive_17 ?_
      refine lv_if_eq (tgt := 25) hx hb dX0_alive_20 (by decide) (fun c3 => ?_) (fun c3 => ?_)
      · refine lv_iinc (v := nI (i + 1)) (lv' := [(1, .int (nI (i + 1))), (0, .ref (b 0))]) hx hb dX0_alive_25 hl (k := 1) rfl (nI_1 i) (by decide) rfl (fun ls hl => ?_)
        refine lv_goto (tgt := 2) hx hb dX0_alive_28 (by decide) ?_
        exact ih2 (i + 1) (by omega) (fun j hj => by rcases Nat.lt_or_ge j i with q | q; exact hz j q; rw [show j = i by omega]; exact c3) _ hS _ (lv_sub hl [1, 0] rfl)
      refine lv_iconst (v := 1) hx hb dX0_alive_23 (by decide) ?_
      exact W.zret (ty := .boolean) hx hb hr rfl (fun t ht hW => ⟨⟨1, s.heap, rfl, ⟨rfl, (alv_1 (by omega) c3).symm⟩, ht⟩, hS.F ht⟩) hS.2.2 dX0_alive_24
  exact loop2 3 0 rfl (fun j hj => absurd hj (Nat.not_lt_zero j)) _ hS _ (lv_sub hl [1, 0] rfl)

set_option maxHeartbeats 4000000 in
set_option maxRecDepth 100000 in
theorem c_X0_lowestClosed (l : Launch) (D : va_G) (G : Nat → ClassId) (b : Nat → Nat) (R : Nat → Int32) (H : Heap) (hB : BD D G b R H) : Met l yX0_lowestClosed wsX0_lowestClosed ({ frames := 0, cells := 0, slots := 0, locals := 0 } : Room) (va_Pc [.ref (b 0)] (CX D G H)) (QI nA (fun r h => H = h ∧ lw R = r)) 0 0 (nA) := by
  refine Met.ofW (cc := cX0_lowestClosed) (maxL := 2) (ret := (some .int)) (by decide) rfl ?_
  intro p e s m args below meth c s₁ B hml hv
  obtain ⟨rfl, rfl, hK, hN⟩ := hv
  have hx := B.exec
  have hb := B.bytes
  have hr := B.returns
  have hts := atoms_spec (ws := wsX0_lowestClosed) B.pre
  have hown : s.vm.findClass RX0 = some m.cls := findClass_of_methodNamed B.named
  have hlocks := B.notSynchronized
  have hF : CallFix p m c cX0_lowestClosed 2 s ([.ref (b 0)] : List Value).toArray wsX0_lowestClosed RX0 := ⟨hx, hb, hml, hown, hts⟩
  have hS : va_S (nA) s.heap s.heap [] := va_S.rf
  have hl := lv_entry ([.ref (b 0)]) (n := 2) (Nat.le_of_ble_eq_true rfl)
  rw [lg_entry_eq]
  generalize (lg_sl ([.ref (b 0)]) ++ List.replicate (2 - (lg_sl ([.ref (b 0)])).length) Slot.unset).toArray = ls at hl ⊢
  have hl : lv_has ls 2 [(0, .ref (b 0))] := hl
  refine lv_iconst (v := 0) hx hb dX0_lowestClosed_0 (by decide) ?_
  refine lv_istore_n (lv' := [(1, .int 0), (0, .ref (b 0))]) hx hb dX0_lowestClosed_1 rfl hl (by decide) rfl (fun ls hl => ?_)
  have loop2 : ∀ (n : Nat) (i : Nat) (_ : i + n = 3) (_ : ∀ j, j < i → R (12 + 10 * j) = 0) (locs : List Loc) (_ : va_S (nA) s.heap s.heap locs) (ls : Array Slot) (_ : lv_has ls 2 [(0, .ref (b 0)), (1, .int (nI i))]), W p l e (headSpec wsX0_lowestClosed ({ frames := 0, cells := 0, slots := 0, locals := 0 } : Room)).room s m ([.ref (b 0)] : List Value).toArray below meth c s.heap locs 0 0 (MQ below (QI nA (fun r h => s.heap = h ∧ lw R = r)) ([.ref (b 0)] : List Value).toArray s 0 0 (nA)) (F0 m 2 ls []) := by
    intro n
    induction n with
    | zero =>
      intro i hin hz locs hS ls hl
      have hi9 : i = 3 := by omega
      refine lv_iload_n hx hb dX0_lowestClosed_2 rfl (lv_at hl 1 rfl) ?_
      refine lv_aload_n hx hb dX0_lowestClosed_3 rfl (lv_at hl 0 rfl) ?_
      refine dp_get hx hb hts (dp_hin 3 rfl) hown hK hB.1 rfl 0 (by decide) (hts (.fieldLink RX0 11 "DroopBoard$Board" "diesels" "[LDroopBoard$Diesel;") (List.mem_of_getElem? (i := 1) rfl)) rfl dX0_lowestClosed_4 ?_
      refine dp_alen hx hb hK hB.2.1 1 rfl dX0_lowestClosed_7 ?_
      refine lv_icmp_ge (tgt := 31) hx hb dX0_lowestClosed_8 (by decide) (fun c1 => ?_) (fun c1 => absurd (nI_le (a := 3) (b := i) (by omega) (by omega)) c1)
      refine lv_iconst (v := (-1)) hx hb dX0_lowestClosed_31 (by decide) ?_
      exact W.iret hx hb hr (fun t ht hW => ⟨⟨-1, s.heap, rfl, ⟨rfl, by simp [lw, hz 0 (by omega), hz 1 (by omega), hz 2 (by omega)]⟩, ht⟩, hS.F ht⟩) hS.2.2 dX0_lowestClosed_32
    | succ n ih2 =>
      intro i hin hz locs hS ls hl
      refine lv_iload_n hx hb dX0_lowestClosed_2 rfl (lv_at hl 1 rfl) ?_
      refine lv_aload_n hx hb dX0_lowestClosed_3 rfl (lv_at hl 0 rfl) ?_
      refine dp_get hx hb hts (dp_hin 3 rfl) hown hK hB.1 rfl 0 (by decide) (hts (.fieldLink RX0 11 "DroopBoard$Board" "diesels" "[LDroopBoard$Diesel;") (List.mem_of_getElem? (i := 1) rfl)) rfl dX0_lowestClosed_4 ?_
      refine dp_alen hx hb hK hB.2.1 1 rfl dX0_lowestClosed_7 ?_
      refine lv_icmp_ge (tgt := 31) hx hb dX0_lowestClosed_8 (by decide) (fun c2 => absurd c2 (nI_ge (a := i) (b := 3) (by omega) (by omega))) (fun c2 => ?_)
      refine lv_aload_n hx hb dX0_lowestClosed_11 rfl (lv_at hl 0 rfl) ?_
      refine dp_get hx hb hts (dp_hin 3 rfl) hown hK hB.1 rfl 0 (by decide) (hts (.fieldLink RX0 11 "DroopBoard$Board" "diesels" "[LDroopBoard$Diesel;") (List.mem_of_getElem? (i := 1) rfl)) rfl dX0_lowestClosed_12 ?_
      refine lv_iload_n hx hb dX0_lowestClosed_15 rfl (lv_at hl 1 rfl) ?_
      refine dp_aald hx hb hK hB.2.1 1 rfl i rfl (by omega) (by decide) rfl dX0_lowestClosed_16 ?_
      refine dp_get hx hb hts (dp_hin 8 rfl) hown hK (hB.2.2.2.2.1 i (by omega)) rfl 4 (by decide) (hts (.fieldLink RX0 45 "DroopBoard$Diesel" "closed" "Z") (List.mem_of_getElem? (i := 2) rfl)) rfl dX0_lowestClosed_17 ?_
      refine lv_if_eq (tgt := 25) hx hb dX0_lowestClosed_20 (by decide) (fun c3 => ?_) (fun c3 => ?_)
      · refine lv_iinc (v := nI (i + 1)) (lv' := [(1, .int (nI (i + 1))), (0, .ref (b 0))]) hx hb dX0_lowestClosed_25 hl (k := 1) rfl (nI_1 i) (by decide) rfl (fun ls hl => ?_)
        refine lv_goto (tgt := 2) hx hb dX0_lowestClosed_28 (by decide) ?_
        exact ih2 (i + 1) (by omega) (fun j hj => by rcases Nat.lt_or_ge j i with q | q; exact hz j q; rw [show j = i by omega]; exact c3) _ hS _ (lv_sub hl [1, 0] rfl)
      refine lv_iload_n hx hb dX0_lowestClosed_23 rfl (lv_at hl 1 rfl) ?_
      exact W.iret hx hb hr (fun t ht hW => ⟨⟨nI i, s.heap, rfl, ⟨rfl, (lw_i (by omega) hz c3).symm⟩, ht⟩, hS.F ht⟩) hS.2.2 dX0_lowestClosed_24
  exact loop2 3 0 rfl (fun j hj => absurd hj (Nat.not_lt_zero j)) _ hS _ (lv_sub hl [1, 0] rfl)

set_option maxHeartbeats 4000000 in
set_option maxRecDepth 100000 in
theorem c_X0_demand (l : Launch) (D : va_G) (G : Nat → ClassId) (b : Nat → Nat) (R : Nat → Int32) (H : Heap) (hB : BD D G b R H) : Met l yX0_demand wsX0_demand ({ frames := 1, cells := 0, slots := 0, locals := 21 } : Room) (va_Pc [.ref (b 0)] (CX D G H)) (QI nA (fun r h => H = h ∧ ld R = r)) 0 0 (nA) := by
  refine Met.ofW (cc := cX0_demand) (maxL := 3) (ret := (some .int)) (by decide) rfl ?_
  intro p e s m args below meth c s₁ B hml hv
  obtain ⟨rfl, rfl, hK, hN⟩ := hv
  have hx := B.exec
  have hb := B.bytes
  have hr := B.returns
  have hts := atoms_spec (ws := wsX0_demand) B.pre
  have hown : s.vm.findClass RX0 = some m.cls := findClass_of_methodNamed B.named
  have hlocks := B.notSynchronized
  have hF : CallFix p m c cX0_demand 3 s ([.ref (b 0)] : List Value).toArray wsX0_demand RX0 := ⟨hx, hb, hml, hown, hts⟩
  have hS : va_S (nA) s.heap s.heap [] := va_S.rf
  have hl := lv_entry ([.ref (b 0)]) (n := 3) (Nat.le_of_ble_eq_true rfl)
  rw [lg_entry_eq]
  generalize (lg_sl ([.ref (b 0)]) ++ List.replicate (3 - (lg_sl ([.ref (b 0)])).length) Slot.unset).toArray = ls at hl ⊢
  have hl : lv_has ls 3 [(0, .ref (b 0))] := hl
  refine lv_aload_n hx hb dX0_demand_0 rfl (lv_at hl 0 rfl) ?_
  refine dp_Vi hF hK hN (c_X0_alive l D G b R _ hB) (cwV 0 hts gX0_demand_X0_alive rfl rfl rfl (by decide +kernel) ⟨Nat.le_of_ble_eq_true rfl, Nat.le_of_ble_eq_true rfl⟩) (dp_recv hK hB.1 rfl) hS nA_i [] rfl rfl hl.1 (Nat.le_of_ble_eq_true rfl) dX0_demand_1 ⟨Nat.le_of_ble_eq_true rfl, Nat.le_of_ble_eq_true rfl⟩ (fun rH1 H1 locs hp hzH1 hkH1 hS => ?_)
  obtain ⟨rfl, rfl⟩ := hp
  refine lv_if_ne (tgt := 9) hx hb dX0_demand_4 (by decide) (fun c1 => ?_) (fun c1 => ?_)
  · refine lv_iconst (v := 0) hx hb dX0_demand_9 (by decide) ?_
    refine lv_istore_n (lv' := [(1, .int 0), (0, .ref (b 0))]) hx hb dX0_demand_10 rfl hl (by decide) rfl (fun ls hl => ?_)
    refine lv_iconst (v := 0) hx hb dX0_demand_11 (by decide) ?_
    refine lv_istore_n (lv' := [(2, .int 0), (1, .int 0), (0, .ref (b 0))]) hx hb dX0_demand_12 rfl hl (by decide) rfl (fun ls hl => ?_)
    have loop13 : ∀ (n : Nat) (i : Nat) (acc : Int32) (_ : i + n = 4) (_ : acc = lsum R i) (locs : List Loc) (_ : va_S (nA) s.heap s.heap locs) (ls : Array Slot) (_ : lv_has ls 3 [(0, .ref (b 0)), (1, .int acc), (2, .int (nI i))]), W p l e (headSpec wsX0_demand ({ frames := 1, cells := 0, slots := 0, locals := 21 } : Room)).room s m ([.ref (b 0)] : List Value).toArray below meth c s.heap locs 0 0 (MQ below (QI nA (fun r h => s.heap = h ∧ ld R = r)) ([.ref (b 0)] : List Value).toArray s 0 0 (nA)) (F0 m 13 ls []) := by
      intro n
      induction n with
      | zero =>
        intro i acc hin hacc locs hS ls hl
        have hi9 : i = 4 := by omega
        rw [hi9] at hacc
        refine lv_iload_n hx hb dX0_demand_13 rfl (lv_at hl 2 rfl) ?_
        refine lv_aload_n hx hb dX0_demand_14 rfl (lv_at hl 0 rfl) ?_
        refine dp_get hx hb hts (dp_hin 11 rfl) hown hK hB.1 rfl 1 (by decide) (hts (.fieldLink RX0 19 "DroopBoard$Board" "feeders" "[LDroopBoard$Feeder;") (List.mem_of_getElem? (i := 1) rfl)) rfl dX0_demand_15 ?_
        refine dp_alen hx hb hK hB.2.2.1 2 rfl dX0_demand_18 ?_
        refine lv_icmp_ge (tgt := 52) hx hb dX0_demand_19 (by decide) (fun c2 => ?_) (fun c2 => absurd (nI_le (a := 4) (b := i) (by omega) (by omega)) c2)
        refine lv_iload_n hx hb dX0_demand_52 rfl (lv_at hl 1 rfl) ?_
        exact W.iret hx hb hr (fun t ht hW => ⟨⟨acc, s.heap, rfl, ⟨rfl, by simp [ld, c1, hacc]⟩, ht⟩, hS.F ht⟩) hS.2.2 dX0_demand_53
      | succ n ih13 =>
        intro i acc hin hacc locs hS ls hl
        refine lv_iload_n hx hb dX0_demand_13 rfl (lv_at hl 2 rfl) ?_
        refine lv_aload_n hx hb dX0_demand_14 rfl (lv_at hl 0 rfl) ?_
        refine dp_get hx hb hts (dp_hin 11 rfl) hown hK hB.1 rfl 1 (by decide) (hts (.fieldLink RX0 19 "DroopBoard$Board" "feeders" "[LDroopBoard$Feeder;") (List.mem_of_getElem? (i := 1) rfl)) rfl dX0_demand_15 ?_
        refine dp_alen hx hb hK hB.2.2.1 2 rfl dX0_demand_18 ?_
        refine lv_icmp_ge (tgt := 52) hx hb dX0_demand_19 (by decide) (fun c3 => absurd c3 (nI_ge (a := i) (b := 4) (by omega) (by omega))) (fun c3 => ?_)
        refine lv_aload_n hx hb dX0_demand_22 rfl (lv_at hl 0 rfl) ?_
        refine dp_get hx hb hts (dp_hin 11 rfl) hown hK hB.1 rfl 1 (by decide) (hts (.fieldLink RX0 19 "DroopBoard$Board" "feeders" "[LDroopBoard$Feeder;") (List.mem_of_getElem? (i := 1) rfl)) rfl dX0_demand_23 ?_
        refine lv_iload_n hx hb dX0_demand_26 rfl (lv_at hl 2 rfl) ?_
        refine dp_aald hx hb hK hB.2.2.1 2 rfl i rfl (by omega) (by decide) rfl dX0_demand_27 ?_
        refine dp_get hx hb hts (dp_hin 16 rfl) hown hK (hB.2.2.2.2.2 i (by omega)) rfl 1 (by decide) (hts (.fieldLink RX0 53 "DroopBoard$Feeder" "on" "Z") (List.mem_of_getElem? (i := 2) rfl)) rfl dX0_demand_28 ?_
        refine lv_if_eq (tgt := 46) hx hb dX0_demand_31 (by decide) (fun c4 => ?_) (fun c4 => ?_)
        · refine lv_iinc (v := nI (i + 1)) (lv' := [(2, .int (nI (i + 1))), (0, .ref (b 0)), (1, .int acc)]) hx hb dX0_demand_46 hl (k := 2) rfl (nI_1 i) (by decide) rfl (fun ls hl => ?_)
          refine lv_goto (tgt := 13) hx hb dX0_demand_49 (by decide) ?_
          exact ih13 (i + 1) acc (by omega) (by simp [lsum, hacc, c1, c4]) _ hS _ (lv_sub hl [1, 2, 0] rfl)
        refine lv_iload_n hx hb dX0_demand_34 rfl (lv_at hl 1 rfl) ?_
        refine lv_aload_n hx hb dX0_demand_35 rfl (lv_at hl 0 rfl) ?_
        refine dp_get hx hb hts (dp_hin 11 rfl) hown hK hB.1 rfl 1 (by decide) (hts (.fieldLink RX0 19 "DroopBoard$Board" "feeders" "[LDroopBoard$Feeder;") (List.mem_of_getElem? (i := 1) rfl)) rfl dX0_demand_36 ?_
        refine lv_iload_n hx hb dX0_demand_39 rfl (lv_at hl 2 rfl) ?_
        refine dp_aald hx hb hK hB.2.2.1 2 rfl i rfl (by omega) (by decide) rfl dX0_demand_40 ?_
        refine dp_get hx hb hts (dp_hin 16 rfl) hown hK (hB.2.2.2.2.2 i (by omega)) rfl 0 (by decide) (hts (.fieldLink RX0 56 "DroopBoard$Feeder" "load" "I") (List.mem_of_getElem? (i := 3) rfl)) rfl dX0_demand_41 ?_
        refine lv_iadd hx hb dX0_demand_44 ?_
        refine lv_istore_n (lv' := [(1, .int (acc + (R (38 + 3 * i)))), (0, .ref (b 0)), (2, .int (nI i))]) hx hb dX0_demand_45 rfl hl (by decide) rfl (fun ls hl => ?_)
        refine lv_iinc (v := nI (i + 1)) (lv' := [(2, .int (nI (i + 1))), (1, .int (acc + (R (38 + 3 * i)))), (0, .ref (b 0))]) hx hb dX0_demand_46 hl (k := 2) rfl (nI_1 i) (by decide) rfl (fun ls hl => ?_)
        refine lv_goto (tgt := 13) hx hb dX0_demand_49 (by decide) ?_
        exact ih13 (i + 1) (acc + (R (38 + 3 * i))) (by omega) (by simp [lsum, hacc, c1, c4]) _ hS _ (lv_sub hl [2, 1, 0] rfl)
    exact loop13 4 0 0 rfl rfl _ hS _ (lv_sub hl [2, 1, 0] rfl)
  refine lv_iconst (v := 0) hx hb dX0_demand_7 (by decide) ?_
  exact W.iret hx hb hr (fun t ht hW => ⟨⟨0, s.heap, rfl, ⟨rfl, by simp [ld, c1]⟩, ht⟩, hS.F ht⟩) hS.2.2 dX0_demand_8

set_option maxHeartbeats 4000000 in
set_option maxRecDepth 100000 in
theorem c_X0_total (l : Launch) (D : va_G) (G : Nat → ClassId) (b : Nat → Nat) (R : Nat → Int32) (f : Int32) (H : Heap) (hB : BD D G b R H) : Met l yX0_total wsX0_total ({ frames := 1, cells := 0, slots := 0, locals := 21 } : Room) (va_Pc [.ref (b 0), .int f] (CX D G H)) (QI nA (fun r h => H = h ∧ tot R f = r)) 0 0 (nA) := by
  refine Met.ofW (cc := cX0_total) (maxL := 4) (ret := (some .int)) (by decide) rfl ?_
  intro p e s m args below meth c s₁ B hml hv
  obtain ⟨rfl, rfl, hK, hN⟩ := hv
  have hx := B.exec
  have hb := B.bytes
  have hr := B.returns
  have hts := atoms_spec (ws := wsX0_total) B.pre
  have hown : s.vm.findClass RX0 = some m.cls := findClass_of_methodNamed B.named
  have hlocks := B.notSynchronized
  have hF : CallFix p m c cX0_total 4 s ([.ref (b 0), .int f] : List Value).toArray wsX0_total RX0 := ⟨hx, hb, hml, hown, hts⟩
  have hS : va_S (nA) s.heap s.heap [] := va_S.rf
  have hl := lv_entry ([.ref (b 0), .int f]) (n := 4) (Nat.le_of_ble_eq_true rfl)
  rw [lg_entry_eq]
  generalize (lg_sl ([.ref (b 0), .int f]) ++ List.replicate (4 - (lg_sl ([.ref (b 0), .int f])).length) Slot.unset).toArray = ls at hl ⊢
  have hl : lv_has ls 4 [(0, .ref (b 0)), (1, .int f)] := hl
  refine lv_iconst (v := 0) hx hb dX0_total_0 (by decide) ?_
  refine lv_istore_n (lv' := [(2, .int 0), (0, .ref (b 0)), (1, .int f)]) hx hb dX0_total_1 rfl hl (by decide) rfl (fun ls hl => ?_)
  refine lv_iconst (v := 0) hx hb dX0_total_2 (by decide) ?_
  refine lv_istore_n (lv' := [(3, .int 0), (2, .int 0), (0, .ref (b 0)), (1, .int f)]) hx hb dX0_total_3 rfl hl (by decide) rfl (fun ls hl => ?_)
  have loop4 : ∀ (n : Nat) (i : Nat) (acc : Int32) (_ : i + n = 3) (_ : acc = tsum R f i) (locs : List Loc) (_ : va_S (nA) s.heap s.heap locs) (ls : Array Slot) (_ : lv_has ls 4 [(0, .ref (b 0)), (1, .int f), (2, .int acc), (3, .int (nI i))]), W p l e (headSpec wsX0_total ({ frames := 1, cells := 0, slots := 0, locals := 21 } : Room)).room s m ([.ref (b 0), .int f] : List Value).toArray below meth c s.heap locs 0 0 (MQ below (QI nA (fun r h => s.heap = h ∧ tot R f = r)) ([.ref (b 0), .int f] : List Value).toArray s 0 0 (nA)) (F0 m 4 ls []) := by
    intro n
    induction n with
    | zero =>
      intro i acc hin hacc locs hS ls hl
      have hi9 : i = 3 := by omega
      rw [hi9] at hacc
      refine lv_iload_n hx hb dX0_total_4 rfl (lv_at hl 3 rfl) ?_
      refine lv_aload_n hx hb dX0_total_5 rfl (lv_at hl 0 rfl) ?_
      refine dp_get hx hb hts (dp_hin 11 rfl) hown hK hB.1 rfl 0 (by decide) (hts (.fieldLink RX0 11 "DroopBoard$Board" "diesels" "[LDroopBoard$Diesel;") (List.mem_of_getElem? (i := 1) rfl)) rfl dX0_total_6 ?_
      refine dp_alen hx hb hK hB.2.1 1 rfl dX0_total_9 ?_
      refine lv_icmp_ge (tgt := 32) hx hb dX0_total_10 (by decide) (fun c1 => ?_) (fun c1 => absurd (nI_le (a := 3) (b := i) (by omega) (by omega)) c1)
      refine lv_iload_n hx hb dX0_total_32 rfl (lv_at hl 2 rfl) ?_
      exact W.iret hx hb hr (fun t ht hW => ⟨⟨acc, s.heap, rfl, ⟨rfl, by simp [tot, hacc]⟩, ht⟩, hS.F ht⟩) hS.2.2 dX0_total_33
    | succ n ih4 =>
      intro i acc hin hacc locs hS ls hl
      refine lv_iload_n hx hb dX0_total_4 rfl (lv_at hl 3 rfl) ?_
      refine lv_aload_n hx hb dX0_total_5 rfl (lv_at hl 0 rfl) ?_
      refine dp_get hx hb hts (dp_hin 11 rfl) hown hK hB.1 rfl 0 (by decide) (hts (.fieldLink RX0 11 "DroopBoard$Board" "diesels" "[LDroopBoard$Diesel;") (List.mem_of_getElem? (i := 1) rfl)) rfl dX0_total_6 ?_
      refine dp_alen hx hb hK hB.2.1 1 rfl dX0_total_9 ?_
      refine lv_icmp_ge (tgt := 32) hx hb dX0_total_10 (by decide) (fun c2 => absurd c2 (nI_ge (a := i) (b := 3) (by omega) (by omega))) (fun c2 => ?_)
      refine lv_iload_n hx hb dX0_total_13 rfl (lv_at hl 2 rfl) ?_
      refine lv_aload_n hx hb dX0_total_14 rfl (lv_at hl 0 rfl) ?_
      refine dp_get hx hb hts (dp_hin 11 rfl) hown hK hB.1 rfl 0 (by decide) (hts (.fieldLink RX0 11 "DroopBoard$Board" "diesels" "[LDroopBoard$Diesel;") (List.mem_of_getElem? (i := 1) rfl)) rfl dX0_total_15 ?_
      refine lv_iload_n hx hb dX0_total_18 rfl (lv_at hl 3 rfl) ?_
      refine dp_aald hx hb hK hB.2.1 1 rfl i rfl (by omega) (by decide) rfl dX0_total_19 ?_
      refine lv_iload_n hx hb dX0_total_20 rfl (lv_at hl 1 rfl) ?_
      refine dp_Vi hF hK hN (c_X1_gives l D G (b (4 + i)) i R f _ (hB.2.2.2.2.1 i (by omega))) (cwV 1 hts gX0_total_X1_gives rfl rfl rfl (by decide +kernel) ⟨Nat.le_of_ble_eq_true rfl, Nat.le_of_ble_eq_true rfl⟩) (dp_recv hK (hB.2.2.2.2.1 i (by omega)) rfl) hS nA_i [.int acc] rfl rfl hl.1 (Nat.le_of_ble_eq_true rfl) dX0_total_21 ⟨Nat.le_of_ble_eq_true rfl, Nat.le_of_ble_eq_true rfl⟩ (fun rH1 H1 locs hp hzH1 hkH1 hS => ?_)
      obtain ⟨rfl, rfl⟩ := hp
      refine lv_iadd hx hb dX0_total_24 ?_
      refine lv_istore_n (lv' := [(2, .int (acc + (gv R i f))), (0, .ref (b 0)), (1, .int f), (3, .int (nI i))]) hx hb dX0_total_25 rfl hl (by decide) rfl (fun ls hl => ?_)
      refine lv_iinc (v := nI (i + 1)) (lv' := [(3, .int (nI (i + 1))), (2, .int (acc + (gv R i f))), (0, .ref (b 0)), (1, .int f)]) hx hb dX0_total_26 hl (k := 3) rfl (nI_1 i) (by decide) rfl (fun ls hl => ?_)
      refine lv_goto (tgt := 4) hx hb dX0_total_29 (by decide) ?_
      exact ih4 (i + 1) (acc + (gv R i f)) (by omega) (by simp [tsum, hacc]) _ hS _ (lv_sub hl [2, 3, 1, 0] rfl)
  exact loop4 3 0 0 rfl rfl _ hS _ (lv_sub hl [2, 3, 1, 0] rfl)

set_option maxHeartbeats 4000000 in
set_option maxRecDepth 100000 in
theorem c_X0_running (l : Launch) (D : va_G) (G : Nat → ClassId) (b : Nat → Nat) (R : Nat → Int32) (H : Heap) (hB : BD D G b R H) : Met l yX0_running wsX0_running ({ frames := 1, cells := 0, slots := 0, locals := 20 } : Room) (va_Pc [.ref (b 0)] (CX D G H)) (QI nA (fun r h => H = h ∧ osum R 11 3 = r)) 0 0 (nA) := by
  refine Met.ofW (cc := cX0_running) (maxL := 3) (ret := (some .int)) (by decide) rfl ?_
  intro p e s m args below meth c s₁ B hml hv
  obtain ⟨rfl, rfl, hK, hN⟩ := hv
  have hx := B.exec
  have hb := B.bytes
  have hr := B.returns
  have hts := atoms_spec (ws := wsX0_running) B.pre
  have hown : s.vm.findClass RX0 = some m.cls := findClass_of_methodNamed B.named
  have hlocks := B.notSynchronized
  have hF : CallFix p m c cX0_running 3 s ([.ref (b 0)] : List Value).toArray wsX0_running RX0 := ⟨hx, hb, hml, hown, hts⟩
  have hS : va_S (nA) s.heap s.heap [] := va_S.rf
  have hl := lv_entry ([.ref (b 0)]) (n := 3) (Nat.le_of_ble_eq_true rfl)
  rw [lg_entry_eq]
  generalize (lg_sl ([.ref (b 0)]) ++ List.replicate (3 - (lg_sl ([.ref (b 0)])).length) Slot.unset).toArray = ls at hl ⊢
  have hl : lv_has ls 3 [(0, .ref (b 0))] := hl
  refine lv_iconst (v := 0) hx hb dX0_running_0 (by decide) ?_
  refine lv_istore_n (lv' := [(1, .int 0), (0, .ref (b 0))]) hx hb dX0_running_1 rfl hl (by decide) rfl (fun ls hl => ?_)
  refine lv_iconst (v := 0) hx hb dX0_running_2 (by decide) ?_
  refine lv_istore_n (lv' := [(2, .int 0), (1, .int 0), (0, .ref (b 0))]) hx hb dX0_running_3 rfl hl (by decide) rfl (fun ls hl => ?_)
  have loop4 : ∀ (n : Nat) (i : Nat) (acc : Int32) (_ : i + n = 3) (_ : acc = osum R 11 i) (locs : List Loc) (_ : va_S (nA) s.heap s.heap locs) (ls : Array Slot) (_ : lv_has ls 3 [(0, .ref (b 0)), (1, .int acc), (2, .int (nI i))]), W p l e (headSpec wsX0_running ({ frames := 1, cells := 0, slots := 0, locals := 20 } : Room)).room s m ([.ref (b 0)] : List Value).toArray below meth c s.heap locs 0 0 (MQ below (QI nA (fun r h => s.heap = h ∧ osum R 11 3 = r)) ([.ref (b 0)] : List Value).toArray s 0 0 (nA)) (F0 m 4 ls []) := by
    intro n
    induction n with
    | zero =>
      intro i acc hin hacc locs hS ls hl
      have hi9 : i = 3 := by omega
      rw [hi9] at hacc
      refine lv_iload_n hx hb dX0_running_4 rfl (lv_at hl 2 rfl) ?_
      refine lv_aload_n hx hb dX0_running_5 rfl (lv_at hl 0 rfl) ?_
      refine dp_get hx hb hts (dp_hin 6 rfl) hown hK hB.1 rfl 0 (by decide) (hts (.fieldLink RX0 11 "DroopBoard$Board" "diesels" "[LDroopBoard$Diesel;") (List.mem_of_getElem? (i := 1) rfl)) rfl dX0_running_6 ?_
      refine dp_alen hx hb hK hB.2.1 1 rfl dX0_running_9 ?_
      refine lv_icmp_ge (tgt := 34) hx hb dX0_running_10 (by decide) (fun c1 => ?_) (fun c1 => absurd (nI_le (a := 3) (b := i) (by omega) (by omega)) c1)
      refine lv_iload_n hx hb dX0_running_34 rfl (lv_at hl 1 rfl) ?_
      exact W.iret hx hb hr (fun t ht hW => ⟨⟨acc, s.heap, rfl, ⟨rfl, hacc.symm⟩, ht⟩, hS.F ht⟩) hS.2.2 dX0_running_35
    | succ n ih4 =>
      intro i acc hin hacc locs hS ls hl
      refine lv_iload_n hx hb dX0_running_4 rfl (lv_at hl 2 rfl) ?_
      refine lv_aload_n hx hb dX0_running_5 rfl (lv_at hl 0 rfl) ?_
      refine dp_get hx hb hts (dp_hin 6 rfl) hown hK hB.1 rfl 0 (by decide) (hts (.fieldLink RX0 11 "DroopBoard$Board" "diesels" "[LDroopBoard$Diesel;") (List.mem_of_getElem? (i := 1) rfl)) rfl dX0_running_6 ?_
      refine dp_alen hx hb hK hB.2.1 1 rfl dX0_running_9 ?_
      refine lv_icmp_ge (tgt := 34) hx hb dX0_running_10 (by decide) (fun c2 => absurd c2 (nI_ge (a := i) (b := 3) (by omega) (by omega))) (fun c2 => ?_)
      refine lv_iload_n hx hb dX0_running_13 rfl (lv_at hl 1 rfl) ?_
      refine lv_aload_n hx hb dX0_running_14 rfl (lv_at hl 0 rfl) ?_
      refine dp_get hx hb hts (dp_hin 6 rfl) hown hK hB.1 rfl 0 (by decide) (hts (.fieldLink RX0 11 "DroopBoard$Board" "diesels" "[LDroopBoard$Diesel;") (List.mem_of_getElem? (i := 1) rfl)) rfl dX0_running_15 ?_
      refine lv_iload_n hx hb dX0_running_18 rfl (lv_at hl 2 rfl) ?_
      refine dp_aald hx hb hK hB.2.1 1 rfl i rfl (by omega) (by decide) rfl dX0_running_19 ?_
      refine dp_get hx hb hts (dp_hin 11 rfl) hown hK (hB.2.2.2.2.1 i (by omega)) rfl 3 (by decide) (hts (.fieldLink RX0 82 "DroopBoard$Diesel" "runs" "Z") (List.mem_of_getElem? (i := 2) rfl)) rfl dX0_running_20 ?_
      refine dp_SNi hF hK hN (c_X5_oneIf l D G (R (11 + 10 * i)) _) ⟨va_cnB 1 hts gX0_running_X5_oneIf_n127 rfl rfl rfl hN.1 (hts (.initialized RX5) (List.mem_of_getElem? (i := 4) rfl)) (by decide +kernel) ⟨Nat.le_of_ble_eq_true rfl, Nat.le_of_ble_eq_true rfl⟩, (hts (.static yX5_oneIf) (List.mem_of_getElem? (i := 3) rfl)), trivial⟩ hS nA_i [.int acc] rfl rfl hl.1 (Nat.le_of_ble_eq_true rfl) dX0_running_23 ⟨Nat.le_of_ble_eq_true rfl, Nat.le_of_ble_eq_true rfl⟩ (fun rH1 H1 locs hp hzH1 hkH1 hS => ?_)
      obtain ⟨rfl, rfl⟩ := hp
      refine lv_iadd hx hb dX0_running_26 ?_
      refine lv_istore_n (lv' := [(1, .int (acc + ((if R (11 + 10 * i) = 0 then 0 else 1)))), (0, .ref (b 0)), (2, .int (nI i))]) hx hb dX0_running_27 rfl hl (by decide) rfl (fun ls hl => ?_)
      refine lv_iinc (v := nI (i + 1)) (lv' := [(2, .int (nI (i + 1))), (1, .int (acc + ((if R (11 + 10 * i) = 0 then 0 else 1)))), (0, .ref (b 0))]) hx hb dX0_running_28 hl (k := 2) rfl (nI_1 i) (by decide) rfl (fun ls hl => ?_)
      refine lv_goto (tgt := 4) hx hb dX0_running_31 (by decide) ?_
      exact ih4 (i + 1) (acc + ((if R (11 + 10 * i) = 0 then 0 else 1))) (by omega) (by simp [osum, hacc]) _ hS _ (lv_sub hl [2, 1, 0] rfl)
  exact loop4 3 0 0 rfl rfl _ hS _ (lv_sub hl [2, 1, 0] rfl)

set_option maxHeartbeats 4000000 in
set_option maxRecDepth 100000 in
theorem c_X0_closedBreakers (l : Launch) (D : va_G) (G : Nat → ClassId) (b : Nat → Nat) (R : Nat → Int32) (H : Heap) (hB : BD D G b R H) : Met l yX0_closedBreakers wsX0_closedBreakers ({ frames := 1, cells := 0, slots := 0, locals := 20 } : Room) (va_Pc [.ref (b 0)] (CX D G H)) (QI nA (fun r h => H = h ∧ osum R 12 3 = r)) 0 0 (nA) := by
  refine Met.ofW (cc := cX0_closedBreakers) (maxL := 3) (ret := (some .int)) (by decide) rfl ?_
  intro p e s m args below meth c s₁ B hml hv
  obtain ⟨rfl, rfl, hK, hN⟩ := hv
  have hx := B.exec
  have hb := B.bytes
  have hr := B.returns
  have hts := atoms_spec (ws := wsX0_closedBreakers) B.pre
  have hown : s.vm.findClass RX0 = some m.cls := findClass_of_methodNamed B.named
  have hlocks := B.notSynchronized
  have hF : CallFix p m c cX0_closedBreakers 3 s ([.ref (b 0)] : List Value).toArray wsX0_closedBreakers RX0 := ⟨hx, hb, hml, hown, hts⟩
  have hS : va_S (nA) s.heap s.heap [] := va_S.rf
  have hl := lv_entry ([.ref (b 0)]) (n := 3) (Nat.le_of_ble_eq_true rfl)
  rw [lg_entry_eq]
  generalize (lg_sl ([.ref (b 0)]) ++ List.replicate (3 - (lg_sl ([.ref (b 0)])).length) Slot.unset).toArray = ls at hl ⊢
  have hl : lv_has ls 3 [(0, .ref (b 0))] := hl
  refine lv_iconst (v := 0) hx hb dX0_closedBreakers_0 (by decide) ?_
  refine lv_istore_n (lv' := [(1, .int 0), (0, .ref (b 0))]) hx hb dX0_closedBreakers_1 rfl hl (by decide) rfl (fun ls hl => ?_)
  refine lv_iconst (v := 0) hx hb dX0_closedBreakers_2 (by decide) ?_
  refine lv_istore_n (lv' := [(2, .int 0), (1, .int 0), (0, .ref (b 0))]) hx hb dX0_closedBreakers_3 rfl hl (by decide) rfl (fun ls hl => ?_)
  have loop4 : ∀ (n : Nat) (i : Nat) (acc : Int32) (_ : i + n = 3) (_ : acc = osum R 12 i) (locs : List Loc) (_ : va_S (nA) s.heap s.heap locs) (ls : Array Slot) (_ : lv_has ls 3 [(0, .ref (b 0)), (1, .int acc), (2, .int (nI i))]), W p l e (headSpec wsX0_closedBreakers ({ frames := 1, cells := 0, slots := 0, locals := 20 } : Room)).room s m ([.ref (b 0)] : List Value).toArray below meth c s.heap locs 0 0 (MQ below (QI nA (fun r h => s.heap = h ∧ osum R 12 3 = r)) ([.ref (b 0)] : List Value).toArray s 0 0 (nA)) (F0 m 4 ls []) := by
    intro n
    induction n with
    | zero =>
      intro i acc hin hacc locs hS ls hl
      have hi9 : i = 3 := by omega
      rw [hi9] at hacc
      refine lv_iload_n hx hb dX0_closedBreakers_4 rfl (lv_at hl 2 rfl) ?_
      refine lv_aload_n hx hb dX0_closedBreakers_5 rfl (lv_at hl 0 rfl) ?_
      refine dp_get hx hb hts (dp_hin 6 rfl) hown hK hB.1 rfl 0 (by decide) (hts (.fieldLink RX0 11 "DroopBoard$Board" "diesels" "[LDroopBoard$Diesel;") (List.mem_of_getElem? (i := 1) rfl)) rfl dX0_closedBreakers_6 ?_
      refine dp_alen hx hb hK hB.2.1 1 rfl dX0_closedBreakers_9 ?_
      refine lv_icmp_ge (tgt := 34) hx hb dX0_closedBreakers_10 (by decide) (fun c1 => ?_) (fun c1 => absurd (nI_le (a := 3) (b := i) (by omega) (by omega)) c1)
      refine lv_iload_n hx hb dX0_closedBreakers_34 rfl (lv_at hl 1 rfl) ?_
      exact W.iret hx hb hr (fun t ht hW => ⟨⟨acc, s.heap, rfl, ⟨rfl, hacc.symm⟩, ht⟩, hS.F ht⟩) hS.2.2 dX0_closedBreakers_35
    | succ n ih4 =>
      intro i acc hin hacc locs hS ls hl
      refine lv_iload_n hx hb dX0_closedBreakers_4 rfl (lv_at hl 2 rfl) ?_
      refine lv_aload_n hx hb dX0_closedBreakers_5 rfl (lv_at hl 0 rfl) ?_
      refine dp_get hx hb hts (dp_hin 6 rfl) hown hK hB.1 rfl 0 (by decide) (hts (.fieldLink RX0 11 "DroopBoard$Board" "diesels" "[LDroopBoard$Diesel;") (List.mem_of_getElem? (i := 1) rfl)) rfl dX0_closedBreakers_6 ?_
      refine dp_alen hx hb hK hB.2.1 1 rfl dX0_closedBreakers_9 ?_
      refine lv_icmp_ge (tgt := 34) hx hb dX0_closedBreakers_10 (by decide) (fun c2 => absurd c2 (nI_ge (a := i) (b := 3) (by omega) (by omega))) (fun c2 => ?_)
      refine lv_iload_n hx hb dX0_closedBreakers_13 rfl (lv_at hl 1 rfl) ?_
      refine lv_aload_n hx hb dX0_closedBreakers_14 rfl (lv_at hl 0 rfl) ?_
      refine dp_get hx hb hts (dp_hin 6 rfl) hown hK hB.1 rfl 0 (by decide) (hts (.fieldLink RX0 11 "DroopBoard$Board" "diesels" "[LDroopBoard$Diesel;") (List.mem_of_getElem? (i := 1) rfl)) rfl dX0_closedBreakers_15 ?_
      refine lv_iload_n hx hb dX0_closedBreakers_18 rfl (lv_at hl 2 rfl) ?_
      refine dp_aald hx hb hK hB.2.1 1 rfl i rfl (by omega) (by decide) rfl dX0_closedBreakers_19 ?_
      refine dp_get hx hb hts (dp_hin 11 rfl) hown hK (hB.2.2.2.2.1 i (by omega)) rfl 4 (by decide) (hts (.fieldLink RX0 45 "DroopBoard$Diesel" "closed" "Z") (List.mem_of_getElem? (i := 2) rfl)) rfl dX0_closedBreakers_20 ?_
      refine dp_SNi hF hK hN (c_X5_oneIf l D G (R (12 + 10 * i)) _) ⟨va_cnB 1 hts gX0_closedBreakers_X5_oneIf_n127 rfl rfl rfl hN.1 (hts (.initialized RX5) (List.mem_of_getElem? (i := 4) rfl)) (by decide +kernel) ⟨Nat.le_of_ble_eq_true rfl, Nat.le_of_ble_eq_true rfl⟩, (hts (.static yX5_oneIf) (List.mem_of_getElem? (i := 3) rfl)), trivial⟩ hS nA_i [.int acc] rfl rfl hl.1 (Nat.le_of_ble_eq_true rfl) dX0_closedBreakers_23 ⟨Nat.le_of_ble_eq_true rfl, Nat.le_of_ble_eq_true rfl⟩ (fun rH1 H1 locs hp hzH1 hkH1 hS => ?_)
      obtain ⟨rfl, rfl⟩ := hp
      refine lv_iadd hx hb dX0_closedBreakers_26 ?_
      refine lv_istore_n (lv' := [(1, .int (acc + ((if R (12 + 10 * i) = 0 then 0 else 1)))), (0, .ref (b 0)), (2, .int (nI i))]) hx hb dX0_closedBreakers_27 rfl hl (by decide) rfl (fun ls hl => ?_)
      refine lv_iinc (v := nI (i + 1)) (lv' := [(2, .int (nI (i + 1))), (1, .int (acc + ((if R (12 + 10 * i) = 0 then 0 else 1)))), (0, .ref (b 0))]) hx hb dX0_closedBreakers_28 hl (k := 2) rfl (nI_1 i) (by decide) rfl (fun ls hl => ?_)
      refine lv_goto (tgt := 4) hx hb dX0_closedBreakers_31 (by decide) ?_
      exact ih4 (i + 1) (acc + ((if R (12 + 10 * i) = 0 then 0 else 1))) (by omega) (by simp [osum, hacc]) _ hS _ (lv_sub hl [2, 1, 0] rfl)
  exact loop4 3 0 0 rfl rfl _ hS _ (lv_sub hl [2, 1, 0] rfl)

set_option maxHeartbeats 4000000 in
set_option maxRecDepth 100000 in
theorem c_X0_ratingsClosed (l : Launch) (D : va_G) (G : Nat → ClassId) (b : Nat → Nat) (R : Nat → Int32) (H : Heap) (hB : BD D G b R H) : Met l yX0_ratingsClosed wsX0_ratingsClosed ({ frames := 0, cells := 0, slots := 0, locals := 0 } : Room) (va_Pc [.ref (b 0)] (CX D G H)) (QI nA (fun r h => H = h ∧ rat R 3 = r)) 0 0 (nA) := by
  refine Met.ofW (cc := cX0_ratingsClosed) (maxL := 3) (ret := (some .int)) (by decide) rfl ?_
  intro p e s m args below meth c s₁ B hml hv
  obtain ⟨rfl, rfl, hK, hN⟩ := hv
  have hx := B.exec
  have hb := B.bytes
  have hr := B.returns
  have hts := atoms_spec (ws := wsX0_ratingsClosed) B.pre
  have hown : s.vm.findClass RX0 = some m.cls := findClass_of_methodNamed B.named
  have hlocks := B.notSynchronized
  have hF : CallFix p m c cX0_ratingsClosed 3 s ([.ref (b 0)] : List Value).toArray wsX0_ratingsClosed RX0 := ⟨hx, hb, hml, hown, hts⟩
  have hS : va_S (nA) s.heap s.heap [] := va_S.rf
  have hl := lv_entry ([.ref (b 0)]) (n := 3) (Nat.le_of_ble_eq_true rfl)
  rw [lg_entry_eq]
  generalize (lg_sl ([.ref (b 0)]) ++ List.replicate (3 - (lg_sl ([.ref (b 0)])).length) Slot.unset).toArray = ls at hl ⊢
  have hl : lv_has ls 3 [(0, .ref (b 0))] := hl
  refine lv_iconst (v := 0) hx hb dX0_ratingsClosed_0 (by decide) ?_
  refine lv_istore_n (lv' := [(1, .int 0), (0, .ref (b 0))]) hx hb dX0_ratingsClosed_1 rfl hl (by decide) rfl (fun ls hl => ?_)
  refine lv_iconst (v := 0) hx hb dX0_ratingsClosed_2 (by decide) ?_
  refine lv_istore_n (lv' := [(2, .int 0), (1, .int 0), (0, .ref (b 0))]) hx hb dX0_ratingsClosed_3 rfl hl (by decide) rfl (fun ls hl => ?_)
  have loop4 : ∀ (n : Nat) (i : Nat) (acc : Int32) (_ : i + n = 3) (_ : acc = rat R i) (locs : List Loc) (_ : va_S (nA) s.heap s.heap locs) (ls : Array Slot) (_ : lv_has ls 3 [(0, .ref (b 0)), (1, .int acc), (2, .int (nI i))]), W p l e (headSpec wsX0_ratingsClosed ({ frames := 0, cells := 0, slots := 0, locals := 0 } : Room)).room s m ([.ref (b 0)] : List Value).toArray below meth c s.heap locs 0 0 (MQ below (QI nA (fun r h => s.heap = h ∧ rat R 3 = r)) ([.ref (b 0)] : List Value).toArray s 0 0 (nA)) (F0 m 4 ls []) := by
    intro n
    induction n with
    | zero =>
      intro i acc hin hacc locs hS ls hl
      have hi9 : i = 3 := by omega
      rw [hi9] at hacc
      refine lv_iload_n hx hb dX0_ratingsClosed_4 rfl (lv_at hl 2 rfl) ?_
      refine lv_aload_n hx hb dX0_ratingsClosed_5 rfl (lv_at hl 0 rfl) ?_
      refine dp_get hx hb hts (dp_hin 4 rfl) hown hK hB.1 rfl 0 (by decide) (hts (.fieldLink RX0 11 "DroopBoard$Board" "diesels" "[LDroopBoard$Diesel;") (List.mem_of_getElem? (i := 1) rfl)) rfl dX0_ratingsClosed_6 ?_
      refine dp_alen hx hb hK hB.2.1 1 rfl dX0_ratingsClosed_9 ?_
      refine lv_icmp_ge (tgt := 43) hx hb dX0_ratingsClosed_10 (by decide) (fun c1 => ?_) (fun c1 => absurd (nI_le (a := 3) (b := i) (by omega) (by omega)) c1)
      refine lv_iload_n hx hb dX0_ratingsClosed_43 rfl (lv_at hl 1 rfl) ?_
      exact W.iret hx hb hr (fun t ht hW => ⟨⟨acc, s.heap, rfl, ⟨rfl, hacc.symm⟩, ht⟩, hS.F ht⟩) hS.2.2 dX0_ratingsClosed_44
    | succ n ih4 =>
      intro i acc hin hacc locs hS ls hl
      refine lv_iload_n hx hb dX0_ratingsClosed_4 rfl (lv_at hl 2 rfl) ?_
      refine lv_aload_n hx hb dX0_ratingsClosed_5 rfl (lv_at hl 0 rfl) ?_
      refine dp_get hx hb hts (dp_hin 4 rfl) hown hK hB.1 rfl 0 (by decide) (hts (.fieldLink RX0 11 "DroopBoard$Board" "diesels" "[LDroopBoard$Diesel;") (List.mem_of_getElem? (i := 1) rfl)) rfl dX0_ratingsClosed_6 ?_
      refine dp_alen hx hb hK hB.2.1 1 rfl dX0_ratingsClosed_9 ?_
      refine lv_icmp_ge (tgt := 43) hx hb dX0_ratingsClosed_10 (by decide) (fun c2 => absurd c2 (nI_ge (a := i) (b := 3) (by omega) (by omega))) (fun c2 => ?_)
      refine lv_aload_n hx hb dX0_ratingsClosed_13 rfl (lv_at hl 0 rfl) ?_
      refine dp_get hx hb hts (dp_hin 4 rfl) hown hK hB.1 rfl 0 (by decide) (hts (.fieldLink RX0 11 "DroopBoard$Board" "diesels" "[LDroopBoard$Diesel;") (List.mem_of_getElem? (i := 1) rfl)) rfl dX0_ratingsClosed_14 ?_
      refine lv_iload_n hx hb dX0_ratingsClosed_17 rfl (lv_at hl 2 rfl) ?_
      refine dp_aald hx hb hK hB.2.1 1 rfl i rfl (by omega) (by decide) rfl dX0_ratingsClosed_18 ?_
      refine dp_get hx hb hts (dp_hin 9 rfl) hown hK (hB.2.2.2.2.1 i (by omega)) rfl 4 (by decide) (hts (.fieldLink RX0 45 "DroopBoard$Diesel" "closed" "Z") (List.mem_of_getElem? (i := 2) rfl)) rfl dX0_ratingsClosed_19 ?_
      refine lv_if_eq (tgt := 37) hx hb dX0_ratingsClosed_22 (by decide) (fun c3 => ?_) (fun c3 => ?_)
      · refine lv_iinc (v := nI (i + 1)) (lv' := [(2, .int (nI (i + 1))), (0, .ref (b 0)), (1, .int acc)]) hx hb dX0_ratingsClosed_37 hl (k := 2) rfl (nI_1 i) (by decide) rfl (fun ls hl => ?_)
        refine lv_goto (tgt := 4) hx hb dX0_ratingsClosed_40 (by decide) ?_
        exact ih4 (i + 1) acc (by omega) (by simp [rat, hacc, c3]) _ hS _ (lv_sub hl [1, 2, 0] rfl)
      refine lv_iload_n hx hb dX0_ratingsClosed_25 rfl (lv_at hl 1 rfl) ?_
      refine lv_aload_n hx hb dX0_ratingsClosed_26 rfl (lv_at hl 0 rfl) ?_
      refine dp_get hx hb hts (dp_hin 4 rfl) hown hK hB.1 rfl 0 (by decide) (hts (.fieldLink RX0 11 "DroopBoard$Board" "diesels" "[LDroopBoard$Diesel;") (List.mem_of_getElem? (i := 1) rfl)) rfl dX0_ratingsClosed_27 ?_
      refine lv_iload_n hx hb dX0_ratingsClosed_30 rfl (lv_at hl 2 rfl) ?_
      refine dp_aald hx hb hK hB.2.1 1 rfl i rfl (by omega) (by decide) rfl dX0_ratingsClosed_31 ?_
      refine dp_get hx hb hts (dp_hin 9 rfl) hown hK (hB.2.2.2.2.1 i (by omega)) rfl 0 (by decide) (hts (.fieldLink RX0 131 "DroopBoard$Diesel" "rating" "I") (List.mem_of_getElem? (i := 3) rfl)) rfl dX0_ratingsClosed_32 ?_
      refine lv_iadd hx hb dX0_ratingsClosed_35 ?_
      refine lv_istore_n (lv' := [(1, .int (acc + (R (8 + 10 * i)))), (0, .ref (b 0)), (2, .int (nI i))]) hx hb dX0_ratingsClosed_36 rfl hl (by decide) rfl (fun ls hl => ?_)
      refine lv_iinc (v := nI (i + 1)) (lv' := [(2, .int (nI (i + 1))), (1, .int (acc + (R (8 + 10 * i)))), (0, .ref (b 0))]) hx hb dX0_ratingsClosed_37 hl (k := 2) rfl (nI_1 i) (by decide) rfl (fun ls hl => ?_)
      refine lv_goto (tgt := 4) hx hb dX0_ratingsClosed_40 (by decide) ?_
      exact ih4 (i + 1) (acc + (R (8 + 10 * i))) (by omega) (by simp [rat, hacc, c3]) _ hS _ (lv_sub hl [2, 1, 0] rfl)
  exact loop4 3 0 0 rfl rfl _ hS _ (lv_sub hl [2, 1, 0] rfl)

set_option maxHeartbeats 4000000 in
set_option maxRecDepth 100000 in
theorem c_X0_trips (l : Launch) (D : va_G) (G : Nat → ClassId) (b : Nat → Nat) (R : Nat → Int32) (H : Heap) (hB : BD D G b R H) : Met l yX0_trips wsX0_trips ({ frames := 0, cells := 0, slots := 0, locals := 0 } : Room) (va_Pc [.ref (b 0)] (CX D G H)) (QI nA (fun r h => H = h ∧ wsum R 17 10 3 = r)) 0 0 (nA) := by
  refine Met.ofW (cc := cX0_trips) (maxL := 3) (ret := (some .int)) (by decide) rfl ?_
  intro p e s m args below meth c s₁ B hml hv
  obtain ⟨rfl, rfl, hK, hN⟩ := hv
  have hx := B.exec
  have hb := B.bytes
  have hr := B.returns
  have hts := atoms_spec (ws := wsX0_trips) B.pre
  have hown : s.vm.findClass RX0 = some m.cls := findClass_of_methodNamed B.named
  have hlocks := B.notSynchronized
  have hF : CallFix p m c cX0_trips 3 s ([.ref (b 0)] : List Value).toArray wsX0_trips RX0 := ⟨hx, hb, hml, hown, hts⟩
  have hS : va_S (nA) s.heap s.heap [] := va_S.rf
  have hl := lv_entry ([.ref (b 0)]) (n := 3) (Nat.le_of_ble_eq_true rfl)
  rw [lg_entry_eq]
  generalize (lg_sl ([.ref (b 0)]) ++ List.replicate (3 - (lg_sl ([.ref (b 0)])).length) Slot.unset).toArray = ls at hl ⊢
  have hl : lv_has ls 3 [(0, .ref (b 0))] := hl
  refine lv_iconst (v := 0) hx hb dX0_trips_0 (by decide) ?_
  refine lv_istore_n (lv' := [(1, .int 0), (0, .ref (b 0))]) hx hb dX0_trips_1 rfl hl (by decide) rfl (fun ls hl => ?_)
  refine lv_iconst (v := 0) hx hb dX0_trips_2 (by decide) ?_
  refine lv_istore_n (lv' := [(2, .int 0), (1, .int 0), (0, .ref (b 0))]) hx hb dX0_trips_3 rfl hl (by decide) rfl (fun ls hl => ?_)
  have loop4 : ∀ (n : Nat) (i : Nat) (acc : Int32) (_ : i + n = 3) (_ : acc = wsum R 17 10 i) (locs : List Loc) (_ : va_S (nA) s.heap s.heap locs) (ls : Array Slot) (_ : lv_has ls 3 [(0, .ref (b 0)), (1, .int acc), (2, .int (nI i))]), W p l e (headSpec wsX0_trips ({ frames := 0, cells := 0, slots := 0, locals := 0 } : Room)).room s m ([.ref (b 0)] : List Value).toArray below meth c s.heap locs 0 0 (MQ below (QI nA (fun r h => s.heap = h ∧ wsum R 17 10 3 = r)) ([.ref (b 0)] : List Value).toArray s 0 0 (nA)) (F0 m 4 ls []) := by
    intro n
    induction n with
    | zero =>
      intro i acc hin hacc locs hS ls hl
      have hi9 : i = 3 := by omega
      rw [hi9] at hacc
      refine lv_iload_n hx hb dX0_trips_4 rfl (lv_at hl 2 rfl) ?_
      refine lv_aload_n hx hb dX0_trips_5 rfl (lv_at hl 0 rfl) ?_
      refine dp_get hx hb hts (dp_hin 3 rfl) hown hK hB.1 rfl 0 (by decide) (hts (.fieldLink RX0 11 "DroopBoard$Board" "diesels" "[LDroopBoard$Diesel;") (List.mem_of_getElem? (i := 1) rfl)) rfl dX0_trips_6 ?_
      refine dp_alen hx hb hK hB.2.1 1 rfl dX0_trips_9 ?_
      refine lv_icmp_ge (tgt := 31) hx hb dX0_trips_10 (by decide) (fun c1 => ?_) (fun c1 => absurd (nI_le (a := 3) (b := i) (by omega) (by omega)) c1)
      refine lv_iload_n hx hb dX0_trips_31 rfl (lv_at hl 1 rfl) ?_
      exact W.iret hx hb hr (fun t ht hW => ⟨⟨acc, s.heap, rfl, ⟨rfl, hacc.symm⟩, ht⟩, hS.F ht⟩) hS.2.2 dX0_trips_32
    | succ n ih4 =>
      intro i acc hin hacc locs hS ls hl
      refine lv_iload_n hx hb dX0_trips_4 rfl (lv_at hl 2 rfl) ?_
      refine lv_aload_n hx hb dX0_trips_5 rfl (lv_at hl 0 rfl) ?_
      refine dp_get hx hb hts (dp_hin 3 rfl) hown hK hB.1 rfl 0 (by decide) (hts (.fieldLink RX0 11 "DroopBoard$Board" "diesels" "[LDroopBoard$Diesel;") (List.mem_of_getElem? (i := 1) rfl)) rfl dX0_trips_6 ?_
      refine dp_alen hx hb hK hB.2.1 1 rfl dX0_trips_9 ?_
      refine lv_icmp_ge (tgt := 31) hx hb dX0_trips_10 (by decide) (fun c2 => absurd c2 (nI_ge (a := i) (b := 3) (by omega) (by omega))) (fun c2 => ?_)
      refine lv_iload_n hx hb dX0_trips_13 rfl (lv_at hl 1 rfl) ?_
      refine lv_aload_n hx hb dX0_trips_14 rfl (lv_at hl 0 rfl) ?_
      refine dp_get hx hb hts (dp_hin 3 rfl) hown hK hB.1 rfl 0 (by decide) (hts (.fieldLink RX0 11 "DroopBoard$Board" "diesels" "[LDroopBoard$Diesel;") (List.mem_of_getElem? (i := 1) rfl)) rfl dX0_trips_15 ?_
      refine lv_iload_n hx hb dX0_trips_18 rfl (lv_at hl 2 rfl) ?_
      refine dp_aald hx hb hK hB.2.1 1 rfl i rfl (by omega) (by decide) rfl dX0_trips_19 ?_
      refine dp_get hx hb hts (dp_hin 8 rfl) hown hK (hB.2.2.2.2.1 i (by omega)) rfl 9 (by decide) (hts (.fieldLink RX0 124 "DroopBoard$Diesel" "trips" "I") (List.mem_of_getElem? (i := 2) rfl)) rfl dX0_trips_20 ?_
      refine lv_iadd hx hb dX0_trips_23 ?_
      refine lv_istore_n (lv' := [(1, .int (acc + (R (17 + 10 * i)))), (0, .ref (b 0)), (2, .int (nI i))]) hx hb dX0_trips_24 rfl hl (by decide) rfl (fun ls hl => ?_)
      refine lv_iinc (v := nI (i + 1)) (lv' := [(2, .int (nI (i + 1))), (1, .int (acc + (R (17 + 10 * i)))), (0, .ref (b 0))]) hx hb dX0_trips_25 hl (k := 2) rfl (nI_1 i) (by decide) rfl (fun ls hl => ?_)
      refine lv_goto (tgt := 4) hx hb dX0_trips_28 (by decide) ?_
      exact ih4 (i + 1) (acc + (R (17 + 10 * i))) (by omega) (by simp [wsum, hacc]) _ hS _ (lv_sub hl [2, 1, 0] rfl)
  exact loop4 3 0 0 rfl rfl _ hS _ (lv_sub hl [2, 1, 0] rfl)

set_option maxHeartbeats 4000000 in
set_option maxRecDepth 100000 in
theorem c_X0_sheds (l : Launch) (D : va_G) (G : Nat → ClassId) (b : Nat → Nat) (R : Nat → Int32) (H : Heap) (hB : BD D G b R H) : Met l yX0_sheds wsX0_sheds ({ frames := 0, cells := 0, slots := 0, locals := 0 } : Room) (va_Pc [.ref (b 0)] (CX D G H)) (QI nA (fun r h => H = h ∧ wsum R 40 3 4 = r)) 0 0 (nA) := by
  refine Met.ofW (cc := cX0_sheds) (maxL := 3) (ret := (some .int)) (by decide) rfl ?_
  intro p e s m args below meth c s₁ B hml hv
  obtain ⟨rfl, rfl, hK, hN⟩ := hv
  have hx := B.exec
  have hb := B.bytes
  have hr := B.returns
  have hts := atoms_spec (ws := wsX0_sheds) B.pre
  have hown : s.vm.findClass RX0 = some m.cls := findClass_of_methodNamed B.named
  have hlocks := B.notSynchronized
  have hF : CallFix p m c cX0_sheds 3 s ([.ref (b 0)] : List Value).toArray wsX0_sheds RX0 := ⟨hx, hb, hml, hown, hts⟩
  have hS : va_S (nA) s.heap s.heap [] := va_S.rf
  have hl := lv_entry ([.ref (b 0)]) (n := 3) (Nat.le_of_ble_eq_true rfl)
  rw [lg_entry_eq]
  generalize (lg_sl ([.ref (b 0)]) ++ List.replicate (3 - (lg_sl ([.ref (b 0)])).length) Slot.unset).toArray = ls at hl ⊢
  have hl : lv_has ls 3 [(0, .ref (b 0))] := hl
  refine lv_iconst (v := 0) hx hb dX0_sheds_0 (by decide) ?_
  refine lv_istore_n (lv' := [(1, .int 0), (0, .ref (b 0))]) hx hb dX0_sheds_1 rfl hl (by decide) rfl (fun ls hl => ?_)
  refine lv_iconst (v := 0) hx hb dX0_sheds_2 (by decide) ?_
  refine lv_istore_n (lv' := [(2, .int 0), (1, .int 0), (0, .ref (b 0))]) hx hb dX0_sheds_3 rfl hl (by decide) rfl (fun ls hl => ?_)
  have loop4 : ∀ (n : Nat) (i : Nat) (acc : Int32) (_ : i + n = 4) (_ : acc = wsum R 40 3 i) (locs : List Loc) (_ : va_S (nA) s.heap s.heap locs) (ls : Array Slot) (_ : lv_has ls 3 [(0, .ref (b 0)), (1, .int acc), (2, .int (nI i))]), W p l e (headSpec wsX0_sheds ({ frames := 0, cells := 0, slots := 0, locals := 0 } : Room)).room s m ([.ref (b 0)] : List Value).toArray below meth c s.heap locs 0 0 (MQ below (QI nA (fun r h => s.heap = h ∧ wsum R 40 3 4 = r)) ([.ref (b 0)] : List Value).toArray s 0 0 (nA)) (F0 m 4 ls []) := by
    intro n
    induction n with
    | zero =>
      intro i acc hin hacc locs hS ls hl
      have hi9 : i = 4 := by omega
      rw [hi9] at hacc
      refine lv_iload_n hx hb dX0_sheds_4 rfl (lv_at hl 2 rfl) ?_
      refine lv_aload_n hx hb dX0_sheds_5 rfl (lv_at hl 0 rfl) ?_
      refine dp_get hx hb hts (dp_hin 3 rfl) hown hK hB.1 rfl 1 (by decide) (hts (.fieldLink RX0 19 "DroopBoard$Board" "feeders" "[LDroopBoard$Feeder;") (List.mem_of_getElem? (i := 1) rfl)) rfl dX0_sheds_6 ?_
      refine dp_alen hx hb hK hB.2.2.1 2 rfl dX0_sheds_9 ?_
      refine lv_icmp_ge (tgt := 31) hx hb dX0_sheds_10 (by decide) (fun c1 => ?_) (fun c1 => absurd (nI_le (a := 4) (b := i) (by omega) (by omega)) c1)
      refine lv_iload_n hx hb dX0_sheds_31 rfl (lv_at hl 1 rfl) ?_
      exact W.iret hx hb hr (fun t ht hW => ⟨⟨acc, s.heap, rfl, ⟨rfl, hacc.symm⟩, ht⟩, hS.F ht⟩) hS.2.2 dX0_sheds_32
    | succ n ih4 =>
      intro i acc hin hacc locs hS ls hl
      refine lv_iload_n hx hb dX0_sheds_4 rfl (lv_at hl 2 rfl) ?_
      refine lv_aload_n hx hb dX0_sheds_5 rfl (lv_at hl 0 rfl) ?_
      refine dp_get hx hb hts (dp_hin 3 rfl) hown hK hB.1 rfl 1 (by decide) (hts (.fieldLink RX0 19 "DroopBoard$Board" "feeders" "[LDroopBoard$Feeder;") (List.mem_of_getElem? (i := 1) rfl)) rfl dX0_sheds_6 ?_
      refine dp_alen hx hb hK hB.2.2.1 2 rfl dX0_sheds_9 ?_
      refine lv_icmp_ge (tgt := 31) hx hb dX0_sheds_10 (by decide) (fun c2 => absurd c2 (nI_ge (a := i) (b := 4) (by omega) (by omega))) (fun c2 => ?_)
      refine lv_iload_n hx hb dX0_sheds_13 rfl (lv_at hl 1 rfl) ?_
      refine lv_aload_n hx hb dX0_sheds_14 rfl (lv_at hl 0 rfl) ?_
      refine dp_get hx hb hts (dp_hin 3 rfl) hown hK hB.1 rfl 1 (by decide) (hts (.fieldLink RX0 19 "DroopBoard$Board" "feeders" "[LDroopBoard$Feeder;") (List.mem_of_getElem? (i := 1) rfl)) rfl dX0_sheds_15 ?_
      refine lv_iload_n hx hb dX0_sheds_18 rfl (lv_at hl 2 rfl) ?_
      refine dp_aald hx hb hK hB.2.2.1 2 rfl i rfl (by omega) (by decide) rfl dX0_sheds_19 ?_
      refine dp_get hx hb hts (dp_hin 8 rfl) hown hK (hB.2.2.2.2.2 i (by omega)) rfl 2 (by decide) (hts (.fieldLink RX0 112 "DroopBoard$Feeder" "sheds" "I") (List.mem_of_getElem? (i := 2) rfl)) rfl dX0_sheds_20 ?_
      refine lv_iadd hx hb dX0_sheds_23 ?_
      refine lv_istore_n (lv' := [(1, .int (acc + (R (40 + 3 * i)))), (0, .ref (b 0)), (2, .int (nI i))]) hx hb dX0_sheds_24 rfl hl (by decide) rfl (fun ls hl => ?_)
      refine lv_iinc (v := nI (i + 1)) (lv' := [(2, .int (nI (i + 1))), (1, .int (acc + (R (40 + 3 * i)))), (0, .ref (b 0))]) hx hb dX0_sheds_25 hl (k := 2) rfl (nI_1 i) (by decide) rfl (fun ls hl => ?_)
      refine lv_goto (tgt := 4) hx hb dX0_sheds_28 (by decide) ?_
      exact ih4 (i + 1) (acc + (R (40 + 3 * i))) (by omega) (by simp [wsum, hacc]) _ hS _ (lv_sub hl [2, 1, 0] rfl)
  exact loop4 4 0 0 rfl rfl _ hS _ (lv_sub hl [2, 1, 0] rfl)

set_option maxHeartbeats 4000000 in
set_option maxRecDepth 100000 in
theorem c_X0_frequency (l : Launch) (D : va_G) (G : Nat → ClassId) (b : Nat → Nat) (R : Nat → Int32) (H : Heap) (hB : BD D G b R H) (hm : ∀ j k, j ≤ k → k ≤ 600 → fok R k = true → fok R j = true) : Met l yX0_frequency wsX0_frequency ({ frames := 2, cells := 0, slots := 0, locals := 44 } : Room) (va_Pc [.ref (b 0)] (CX D G H)) (QI nA (fun r h => H = h ∧ fq R = r)) 0 0 (nA) := by
  refine Met.ofW (cc := cX0_frequency) (maxL := 6) (ret := (some .int)) (by decide) rfl ?_
  intro p e s m args below meth c s₁ B hml hv
  obtain ⟨rfl, rfl, hK, hN⟩ := hv
  have hx := B.exec
  have hb := B.bytes
  have hr := B.returns
  have hts := atoms_spec (ws := wsX0_frequency) B.pre
  have hown : s.vm.findClass RX0 = some m.cls := findClass_of_methodNamed B.named
  have hlocks := B.notSynchronized
  have hF : CallFix p m c cX0_frequency 6 s ([.ref (b 0)] : List Value).toArray wsX0_frequency RX0 := ⟨hx, hb, hml, hown, hts⟩
  have hS : va_S (nA) s.heap s.heap [] := va_S.rf
  have hl := lv_entry ([.ref (b 0)]) (n := 6) (Nat.le_of_ble_eq_true rfl)
  rw [lg_entry_eq]
  generalize (lg_sl ([.ref (b 0)]) ++ List.replicate (6 - (lg_sl ([.ref (b 0)])).length) Slot.unset).toArray = ls at hl ⊢
  have hl : lv_has ls 6 [(0, .ref (b 0))] := hl
  refine lv_aload_n hx hb dX0_frequency_0 rfl (lv_at hl 0 rfl) ?_
  refine dp_Vi hF hK hN (c_X0_alive l D G b R _ hB) (cwV 0 hts gX0_frequency_X0_alive rfl rfl rfl (by decide +kernel) ⟨Nat.le_of_ble_eq_true rfl, Nat.le_of_ble_eq_true rfl⟩) (dp_recv hK hB.1 rfl) hS nA_i [] rfl rfl hl.1 (Nat.le_of_ble_eq_true rfl) dX0_frequency_1 ⟨Nat.le_of_ble_eq_true rfl, Nat.le_of_ble_eq_true rfl⟩ (fun rH1 H1 locs hp hzH1 hkH1 hS => ?_)
  obtain ⟨rfl, rfl⟩ := hp
  refine lv_if_ne (tgt := 9) hx hb dX0_frequency_4 (by decide) (fun c1 => ?_) (fun c1 => ?_)
  · refine lv_aload_n hx hb dX0_frequency_9 rfl (lv_at hl 0 rfl) ?_
    refine dp_Vi hF hK hN (c_X0_demand l D G b R _ hB) (cwV 0 hts gX0_frequency_X0_demand rfl rfl rfl (by decide +kernel) ⟨Nat.le_of_ble_eq_true rfl, Nat.le_of_ble_eq_true rfl⟩) (dp_recv hK hB.1 rfl) hS nA_i [] rfl rfl hl.1 (Nat.le_of_ble_eq_true rfl) dX0_frequency_10 ⟨Nat.le_of_ble_eq_true rfl, Nat.le_of_ble_eq_true rfl⟩ (fun rH2 H2 locs hp hzH2 hkH2 hS => ?_)
    obtain ⟨rfl, rfl⟩ := hp
    refine lv_istore_n (lv' := [(1, .int (ld R)), (0, .ref (b 0))]) hx hb dX0_frequency_13 rfl hl (by decide) rfl (fun ls hl => ?_)
    refine lv_sipush (v := 4700) hx hb dX0_frequency_14 (by decide) ?_
    refine lv_istore_n (lv' := [(2, .int 4700), (1, .int (ld R)), (0, .ref (b 0))]) hx hb dX0_frequency_17 rfl hl (by decide) rfl (fun ls hl => ?_)
    refine lv_sipush (v := 5300) hx hb dX0_frequency_18 (by decide) ?_
    refine lv_istore_n (lv' := [(3, .int 5300), (2, .int 4700), (1, .int (ld R)), (0, .ref (b 0))]) hx hb dX0_frequency_21 rfl hl (by decide) rfl (fun ls hl => ?_)
    refine lv_iconst (v := 0) hx hb dX0_frequency_22 (by decide) ?_
    refine lv_istore (lv' := [(4, .int 0), (3, .int 5300), (2, .int 4700), (1, .int (ld R)), (0, .ref (b 0))]) hx hb dX0_frequency_23 hl (by decide) rfl (fun ls hl => ?_)
    have loop25 : ∀ (n : Nat) (i : Nat) (lo : Nat) (hi : Nat) (_ : i + n = 10) (_ : lo ≤ hi) (_ : hi ≤ 600) (_ : hi - lo < 2 ^ n) (_ : lo = 0 ∨ fok R lo = true) (_ : ∀ k, hi < k → k ≤ 600 → fok R k = false) (locs : List Loc) (_ : va_S (nA) s.heap s.heap locs) (ls : Array Slot) (_ : lv_has ls 6 [(0, .ref (b 0)), (1, .int (ld R)), (2, .int (nI (4700 + lo))), (3, .int (nI (4700 + hi))), (4, .int (nI i))]), W p l e (headSpec wsX0_frequency ({ frames := 2, cells := 0, slots := 0, locals := 44 } : Room)).room s m ([.ref (b 0)] : List Value).toArray below meth c s.heap locs 0 0 (MQ below (QI nA (fun r h => s.heap = h ∧ fq R = r)) ([.ref (b 0)] : List Value).toArray s 0 0 (nA)) (F0 m 25 ls []) := by
      intro n
      induction n with
      | zero =>
        intro i lo hi hin hlh hh hw h0 h1 locs hS ls hl
        have hi9 : i = 10 := by omega
        have hlo : lo = hi := by simp at hw; omega
        refine lv_iload hx hb dX0_frequency_25 (lv_at hl 4 rfl) ?_
        refine lv_bipush (v := 10) hx hb dX0_frequency_27 (by decide) ?_
        refine lv_icmp_ge (tgt := 73) hx hb dX0_frequency_29 (by decide) (fun c2 => ?_) (fun c2 => absurd (nI_le (a := 10) (b := i) (by omega) (by omega)) c2)
        refine lv_iload_n hx hb dX0_frequency_73 rfl (lv_at hl 2 rfl) ?_
        exact W.iret hx hb hr (fun t ht hW => ⟨⟨nI (4700 + lo), s.heap, rfl, ⟨rfl, (fq_of c1 (fsb_eq (by omega) h0 (fun k q1 q2 => h1 k (by omega) q2))).symm⟩, ht⟩, hS.F ht⟩) hS.2.2 dX0_frequency_74
      | succ n ih25 =>
        intro i lo hi hin hlh hh hw h0 h1 locs hS ls hl
        obtain ⟨mid, hmid⟩ : ∃ z, z = (lo + hi + 1) / 2 := ⟨_, rfl⟩
        refine lv_iload hx hb dX0_frequency_25 (lv_at hl 4 rfl) ?_
        refine lv_bipush (v := 10) hx hb dX0_frequency_27 (by decide) ?_
        refine lv_icmp_ge (tgt := 73) hx hb dX0_frequency_29 (by decide) (fun c3 => absurd c3 (nI_ge (a := i) (b := 10) (by omega) (by omega))) (fun c3 => ?_)
        refine lv_iload_n hx hb dX0_frequency_32 rfl (lv_at hl 2 rfl) ?_
        refine lv_iload_n hx hb dX0_frequency_33 rfl (lv_at hl 3 rfl) ?_
        refine lv_icmp_ge (tgt := 73) hx hb dX0_frequency_34 (by decide) (fun c4 => ?_) (fun c4 => ?_)
        · have hlo : lo = hi := by rcases Nat.lt_or_ge lo hi with q | q; exact absurd c4 (nI_ge (by omega) (by omega)); omega
          refine lv_iload_n hx hb dX0_frequency_73 rfl (lv_at hl 2 rfl) ?_
          exact W.iret hx hb hr (fun t ht hW => ⟨⟨nI (4700 + lo), s.heap, rfl, ⟨rfl, (fq_of c1 (fsb_eq (by omega) h0 (fun k q1 q2 => h1 k (by omega) q2))).symm⟩, ht⟩, hS.F ht⟩) hS.2.2 dX0_frequency_74
        have hlt : lo < hi := by rcases Nat.lt_or_ge lo hi with q | q; exact q; exact absurd (nI_le (a := 4700 + hi) (b := 4700 + lo) (by omega) (by omega)) c4
        refine lv_iload_n hx hb dX0_frequency_37 rfl (lv_at hl 2 rfl) ?_
        refine lv_iload_n hx hb dX0_frequency_38 rfl (lv_at hl 3 rfl) ?_
        refine lv_iadd hx hb dX0_frequency_39 ?_
        refine lv_iconst (v := 1) hx hb dX0_frequency_40 (by decide) ?_
        refine lv_iadd hx hb dX0_frequency_41 ?_
        refine lv_iconst (v := 2) hx hb dX0_frequency_42 (by decide) ?_
        refine lv_idiv hx hb dX0_frequency_43 (by decide) ?_
        rw [half_eq (lo := lo) (hi := hi) (by omega) hmid]
        refine lv_istore (lv' := [(5, .int (nI (4700 + mid))), (0, .ref (b 0)), (1, .int (ld R)), (2, .int (nI (4700 + lo))), (3, .int (nI (4700 + hi))), (4, .int (nI i))]) hx hb dX0_frequency_44 hl (by decide) rfl (fun ls hl => ?_)
        refine lv_aload_n hx hb dX0_frequency_46 rfl (lv_at hl 1 rfl) ?_
        refine lv_iload hx hb dX0_frequency_47 (lv_at hl 0 rfl) ?_
        refine dp_Vi hF hK hN (c_X0_total l D G b R (nI (4700 + mid)) _ hB) (cwV 1 hts gX0_frequency_X0_total rfl rfl rfl (by decide +kernel) ⟨Nat.le_of_ble_eq_true rfl, Nat.le_of_ble_eq_true rfl⟩) (dp_recv hK hB.1 rfl) hS nA_i [] rfl rfl hl.1 (Nat.le_of_ble_eq_true rfl) dX0_frequency_49 ⟨Nat.le_of_ble_eq_true rfl, Nat.le_of_ble_eq_true rfl⟩ (fun rH3 H3 locs hp hzH3 hkH3 hS => ?_)
        obtain ⟨rfl, rfl⟩ := hp
        refine lv_iload_n hx hb dX0_frequency_52 rfl (lv_at hl 2 rfl) ?_
        refine lv_icmp_lt (tgt := 62) hx hb dX0_frequency_53 (by decide) (fun c5 => ?_) (fun c5 => ?_)
        · refine lv_iload hx hb dX0_frequency_62 (lv_at hl 0 rfl) ?_
          refine lv_iconst (v := 1) hx hb dX0_frequency_64 (by decide) ?_
          refine lv_isub hx hb dX0_frequency_65 ?_
          rw [fd_pred (k := mid) (by omega)]
          refine lv_istore_n (lv' := [(3, .int (nI (4700 + (mid - 1)))), (5, .int (nI (4700 + mid))), (0, .ref (b 0)), (1, .int (ld R)), (2, .int (nI (4700 + lo))), (4, .int (nI i))]) hx hb dX0_frequency_66 rfl hl (by decide) rfl (fun ls hl => ?_)
          refine lv_iinc (v := nI (i + 1)) (lv' := [(4, .int (nI (i + 1))), (3, .int (nI (4700 + (mid - 1)))), (5, .int (nI (4700 + mid))), (0, .ref (b 0)), (1, .int (ld R)), (2, .int (nI (4700 + lo)))]) hx hb dX0_frequency_67 hl (k := 5) rfl (nI_1 i) (by decide) rfl (fun ls hl => ?_)
          refine lv_goto (tgt := 25) hx hb dX0_frequency_70 (by decide) ?_
          exact ih25 (i + 1) lo (mid - 1) (by omega) (by omega) (by omega) (hv_hw hw (by omega)) h0 (fun k q1 q2 => fok_n hm (by omega) q2 (fok_f c5)) _ hS _ (lv_sub hl [3, 4, 5, 1, 0] rfl)
        refine lv_iload hx hb dX0_frequency_56 (lv_at hl 0 rfl) ?_
        refine lv_istore_n (lv' := [(2, .int (nI (4700 + mid))), (5, .int (nI (4700 + mid))), (0, .ref (b 0)), (1, .int (ld R)), (3, .int (nI (4700 + hi))), (4, .int (nI i))]) hx hb dX0_frequency_58 rfl hl (by decide) rfl (fun ls hl => ?_)
        refine lv_goto (tgt := 67) hx hb dX0_frequency_59 (by decide) ?_
        refine lv_iinc (v := nI (i + 1)) (lv' := [(4, .int (nI (i + 1))), (2, .int (nI (4700 + mid))), (5, .int (nI (4700 + mid))), (0, .ref (b 0)), (1, .int (ld R)), (3, .int (nI (4700 + hi)))]) hx hb dX0_frequency_67 hl (k := 5) rfl (nI_1 i) (by decide) rfl (fun ls hl => ?_)
        refine lv_goto (tgt := 25) hx hb dX0_frequency_70 (by decide) ?_
        exact ih25 (i + 1) mid hi (by omega) (by omega) hh (hv_hw hw (by omega)) (Or.inr (fok_t c5)) h1 _ hS _ (lv_sub hl [3, 4, 1, 5, 0] rfl)
    exact loop25 10 0 0 600 rfl (Nat.zero_le _) (Nat.le_refl _) (by decide) (Or.inl rfl) (fun k q1 q2 => absurd q1 (by omega)) _ hS _ (lv_sub hl [4, 3, 2, 1, 0] rfl)
  refine lv_iconst (v := 0) hx hb dX0_frequency_7 (by decide) ?_
  exact W.iret hx hb hr (fun t ht hW => ⟨⟨0, s.heap, rfl, ⟨rfl, by simp [fq, c1]⟩, ht⟩, hS.F ht⟩) hS.2.2 dX0_frequency_8

set_option maxHeartbeats 4000000 in
set_option maxRecDepth 100000 in
theorem c_X0_frequencyDownwards (l : Launch) (D : va_G) (G : Nat → ClassId) (b : Nat → Nat) (R : Nat → Int32) (H : Heap) (hB : BD D G b R H) : Met l yX0_frequencyDownwards wsX0_frequencyDownwards ({ frames := 2, cells := 0, slots := 0, locals := 44 } : Room) (va_Pc [.ref (b 0)] (CX D G H)) (QI nA (fun r h => H = h ∧ fq R = r)) 0 0 (nA) := by
  refine Met.ofW (cc := cX0_frequencyDownwards) (maxL := 3) (ret := (some .int)) (by decide) rfl ?_
  intro p e s m args below meth c s₁ B hml hv
  obtain ⟨rfl, rfl, hK, hN⟩ := hv
  have hx := B.exec
  have hb := B.bytes
  have hr := B.returns
  have hts := atoms_spec (ws := wsX0_frequencyDownwards) B.pre
  have hown : s.vm.findClass RX0 = some m.cls := findClass_of_methodNamed B.named
  have hlocks := B.notSynchronized
  have hF : CallFix p m c cX0_frequencyDownwards 3 s ([.ref (b 0)] : List Value).toArray wsX0_frequencyDownwards RX0 := ⟨hx, hb, hml, hown, hts⟩
  have hS : va_S (nA) s.heap s.heap [] := va_S.rf
  have hl := lv_entry ([.ref (b 0)]) (n := 3) (Nat.le_of_ble_eq_true rfl)
  rw [lg_entry_eq]
  generalize (lg_sl ([.ref (b 0)]) ++ List.replicate (3 - (lg_sl ([.ref (b 0)])).length) Slot.unset).toArray = ls at hl ⊢
  have hl : lv_has ls 3 [(0, .ref (b 0))] := hl
  refine lv_aload_n hx hb dX0_frequencyDownwards_0 rfl (lv_at hl 0 rfl) ?_
  refine dp_Vi hF hK hN (c_X0_alive l D G b R _ hB) (cwV 0 hts gX0_frequencyDownwards_X0_alive rfl rfl rfl (by decide +kernel) ⟨Nat.le_of_ble_eq_true rfl, Nat.le_of_ble_eq_true rfl⟩) (dp_recv hK hB.1 rfl) hS nA_i [] rfl rfl hl.1 (Nat.le_of_ble_eq_true rfl) dX0_frequencyDownwards_1 ⟨Nat.le_of_ble_eq_true rfl, Nat.le_of_ble_eq_true rfl⟩ (fun rH1 H1 locs hp hzH1 hkH1 hS => ?_)
  obtain ⟨rfl, rfl⟩ := hp
  refine lv_if_ne (tgt := 9) hx hb dX0_frequencyDownwards_4 (by decide) (fun c1 => ?_) (fun c1 => ?_)
  · refine lv_aload_n hx hb dX0_frequencyDownwards_9 rfl (lv_at hl 0 rfl) ?_
    refine dp_Vi hF hK hN (c_X0_demand l D G b R _ hB) (cwV 0 hts gX0_frequencyDownwards_X0_demand rfl rfl rfl (by decide +kernel) ⟨Nat.le_of_ble_eq_true rfl, Nat.le_of_ble_eq_true rfl⟩) (dp_recv hK hB.1 rfl) hS nA_i [] rfl rfl hl.1 (Nat.le_of_ble_eq_true rfl) dX0_frequencyDownwards_10 ⟨Nat.le_of_ble_eq_true rfl, Nat.le_of_ble_eq_true rfl⟩ (fun rH2 H2 locs hp hzH2 hkH2 hS => ?_)
    obtain ⟨rfl, rfl⟩ := hp
    refine lv_istore_n (lv' := [(1, .int (ld R)), (0, .ref (b 0))]) hx hb dX0_frequencyDownwards_13 rfl hl (by decide) rfl (fun ls hl => ?_)
    refine lv_sipush (v := 5300) hx hb dX0_frequencyDownwards_14 (by decide) ?_
    refine lv_istore_n (lv' := [(2, .int 5300), (1, .int (ld R)), (0, .ref (b 0))]) hx hb dX0_frequencyDownwards_17 rfl hl (by decide) rfl (fun ls hl => ?_)
    have loop18 : ∀ (n : Nat) (k : Nat) (_ : k = n) (_ : fsb (fok R) 600 = fsb (fok R) k) (_ : k ≤ 600) (locs : List Loc) (_ : va_S (nA) s.heap s.heap locs) (ls : Array Slot) (_ : lv_has ls 3 [(0, .ref (b 0)), (1, .int (ld R)), (2, .int (nI (4700 + k)))]), W p l e (headSpec wsX0_frequencyDownwards ({ frames := 2, cells := 0, slots := 0, locals := 44 } : Room)).room s m ([.ref (b 0)] : List Value).toArray below meth c s.heap locs 0 0 (MQ below (QI nA (fun r h => s.heap = h ∧ fq R = r)) ([.ref (b 0)] : List Value).toArray s 0 0 (nA)) (F0 m 18 ls []) := by
      intro n
      induction n with
      | zero =>
        intro k hk hfs hkb locs hS ls hl
        have hk0 : k = 0 := hk
        refine lv_iload_n hx hb dX0_frequencyDownwards_18 rfl (lv_at hl 2 rfl) ?_
        refine lv_sipush (v := 4700) hx hb dX0_frequencyDownwards_19 (by decide) ?_
        refine lv_icmp_le (tgt := 42) hx hb dX0_frequencyDownwards_22 (by decide) (fun c2 => ?_) (fun c2 => absurd (nI_le (a := 4700 + k) (b := 4700) (by omega) (by omega)) c2)
        refine lv_sipush (v := 4700) hx hb dX0_frequencyDownwards_42 (by decide) ?_
        exact W.iret hx hb hr (fun t ht hW => ⟨⟨4700, s.heap, rfl, ⟨rfl, (fq_of c1 (k := 0) (hfs.trans (by rw [hk0]; rfl))).symm⟩, ht⟩, hS.F ht⟩) hS.2.2 dX0_frequencyDownwards_45
      | succ n ih18 =>
        intro k hk hfs hkb locs hS ls hl
        have hk6 : k ≤ 600 := hkb
        refine lv_iload_n hx hb dX0_frequencyDownwards_18 rfl (lv_at hl 2 rfl) ?_
        refine lv_sipush (v := 4700) hx hb dX0_frequencyDownwards_19 (by decide) ?_
        refine lv_icmp_le (tgt := 42) hx hb dX0_frequencyDownwards_22 (by decide) (fun c3 => absurd c3 (nI_ge (a := 4700) (b := 4700 + k) (by omega) (by omega))) (fun c3 => ?_)
        refine lv_aload_n hx hb dX0_frequencyDownwards_25 rfl (lv_at hl 0 rfl) ?_
        refine lv_iload_n hx hb dX0_frequencyDownwards_26 rfl (lv_at hl 2 rfl) ?_
        refine dp_Vi hF hK hN (c_X0_total l D G b R (nI (4700 + k)) _ hB) (cwV 1 hts gX0_frequencyDownwards_X0_total rfl rfl rfl (by decide +kernel) ⟨Nat.le_of_ble_eq_true rfl, Nat.le_of_ble_eq_true rfl⟩) (dp_recv hK hB.1 rfl) hS nA_i [] rfl rfl hl.1 (Nat.le_of_ble_eq_true rfl) dX0_frequencyDownwards_27 ⟨Nat.le_of_ble_eq_true rfl, Nat.le_of_ble_eq_true rfl⟩ (fun rH3 H3 locs hp hzH3 hkH3 hS => ?_)
        obtain ⟨rfl, rfl⟩ := hp
        refine lv_iload_n hx hb dX0_frequencyDownwards_30 rfl (lv_at hl 1 rfl) ?_
        refine lv_icmp_lt (tgt := 36) hx hb dX0_frequencyDownwards_31 (by decide) (fun c4 => ?_) (fun c4 => ?_)
        · refine lv_iinc (v := nI (4700 + (k - 1))) (lv' := [(2, .int (nI (4700 + (k - 1)))), (0, .ref (b 0)), (1, .int (ld R))]) hx hb dX0_frequencyDownwards_36 hl (k := 2) rfl (fd_dec (k := k) (by omega)) (by decide) rfl (fun ls hl => ?_)
          refine lv_goto (tgt := 18) hx hb dX0_frequencyDownwards_39 (by decide) ?_
          exact ih18 (k - 1) (by omega) (hfs.trans (fsb_dn (by omega) (fok_f c4))) (by omega) _ hS _ (lv_sub hl [1, 2, 0] rfl)
        refine lv_iload_n hx hb dX0_frequencyDownwards_34 rfl (lv_at hl 2 rfl) ?_
        exact W.iret hx hb hr (fun t ht hW => ⟨⟨nI (4700 + k), s.heap, rfl, ⟨rfl, (fq_of c1 (hfs.trans (fsb_at (by omega) (fok_t c4)))).symm⟩, ht⟩, hS.F ht⟩) hS.2.2 dX0_frequencyDownwards_35
    exact loop18 600 600 rfl rfl (Nat.le_refl _) _ hS _ (lv_sub hl [2, 1, 0] rfl)
  refine lv_iconst (v := 0) hx hb dX0_frequencyDownwards_7 (by decide) ?_
  exact W.iret hx hb hr (fun t ht hW => ⟨⟨0, s.heap, rfl, ⟨rfl, by simp [fq, c1]⟩, ht⟩, hS.F ht⟩) hS.2.2 dX0_frequencyDownwards_8

set_option maxHeartbeats 4000000 in
set_option maxRecDepth 100000 in
theorem c_X0_power (l : Launch) (D : va_G) (G : Nat → ClassId) (b : Nat → Nat) (R : Nat → Int32) (i : Nat) (f : Int32) (H : Heap) (hB : BD D G b R H) (hi : i < 3) : Met l yX0_power wsX0_power ({ frames := 2, cells := 0, slots := 0, locals := 44 } : Room) (va_Pc [.ref (b 0), .int (nI i), .int f] (CX D G H)) (QI nA (fun r h => H = h ∧ pw R i f = r)) 0 0 (nA) := by
  refine Met.ofW (cc := cX0_power) (maxL := 4) (ret := (some .int)) (by decide) rfl ?_
  intro p e s m args below meth c s₁ B hml hv
  obtain ⟨rfl, rfl, hK, hN⟩ := hv
  have hx := B.exec
  have hb := B.bytes
  have hr := B.returns
  have hts := atoms_spec (ws := wsX0_power) B.pre
  have hown : s.vm.findClass RX0 = some m.cls := findClass_of_methodNamed B.named
  have hlocks := B.notSynchronized
  have hF : CallFix p m c cX0_power 4 s ([.ref (b 0), .int (nI i), .int f] : List Value).toArray wsX0_power RX0 := ⟨hx, hb, hml, hown, hts⟩
  have hS : va_S (nA) s.heap s.heap [] := va_S.rf
  have hl := lv_entry ([.ref (b 0), .int (nI i), .int f]) (n := 4) (Nat.le_of_ble_eq_true rfl)
  rw [lg_entry_eq]
  generalize (lg_sl ([.ref (b 0), .int (nI i), .int f]) ++ List.replicate (4 - (lg_sl ([.ref (b 0), .int (nI i), .int f])).length) Slot.unset).toArray = ls at hl ⊢
  have hl : lv_has ls 4 [(0, .ref (b 0)), (1, .int (nI i)), (2, .int f)] := hl
  refine lv_aload_n hx hb dX0_power_0 rfl (lv_at hl 0 rfl) ?_
  refine dp_get hx hb hts (dp_hin 36 rfl) hown hK hB.1 rfl 0 (by decide) (hts (.fieldLink RX0 11 "DroopBoard$Board" "diesels" "[LDroopBoard$Diesel;") (List.mem_of_getElem? (i := 1) rfl)) rfl dX0_power_1 ?_
  refine lv_iload_n hx hb dX0_power_4 rfl (lv_at hl 1 rfl) ?_
  refine dp_aald hx hb hK hB.2.1 1 rfl i rfl hi (by decide) rfl dX0_power_5 ?_
  refine lv_iload_n hx hb dX0_power_6 rfl (lv_at hl 2 rfl) ?_
  refine dp_Vi hF hK hN (c_X1_gives l D G (b (4 + i)) i R f _ (hB.2.2.2.2.1 i hi)) (cwV 1 hts gX0_power_X1_gives rfl rfl rfl (by decide +kernel) ⟨Nat.le_of_ble_eq_true rfl, Nat.le_of_ble_eq_true rfl⟩) (dp_recv hK (hB.2.2.2.2.1 i hi) rfl) hS nA_i [] rfl rfl hl.1 (Nat.le_of_ble_eq_true rfl) dX0_power_7 ⟨Nat.le_of_ble_eq_true rfl, Nat.le_of_ble_eq_true rfl⟩ (fun rH1 H1 locs hp hzH1 hkH1 hS => ?_)
  obtain ⟨rfl, rfl⟩ := hp
  refine lv_istore_n (lv' := [(3, .int (gv R i f)), (0, .ref (b 0)), (1, .int (nI i)), (2, .int f)]) hx hb dX0_power_10 rfl hl (by decide) rfl (fun ls hl => ?_)
  refine lv_iload_n hx hb dX0_power_11 rfl (lv_at hl 2 rfl) ?_
  refine lv_aload_n hx hb dX0_power_12 rfl (lv_at hl 1 rfl) ?_
  refine dp_Vi hF hK hN (c_X0_lowestClosed l D G b R _ hB) (cwV 0 hts gX0_power_X0_lowestClosed rfl rfl rfl (by decide +kernel) ⟨Nat.le_of_ble_eq_true rfl, Nat.le_of_ble_eq_true rfl⟩) (dp_recv hK hB.1 rfl) hS nA_i [.int (nI i)] rfl rfl hl.1 (Nat.le_of_ble_eq_true rfl) dX0_power_13 ⟨Nat.le_of_ble_eq_true rfl, Nat.le_of_ble_eq_true rfl⟩ (fun rH2 H2 locs hp hzH2 hkH2 hS => ?_)
  obtain ⟨rfl, rfl⟩ := hp
  refine lv_icmp_eq (tgt := 21) hx hb dX0_power_16 (by decide) (fun c1 => ?_) (fun c1 => ?_)
  · refine lv_iload_n hx hb dX0_power_21 rfl (lv_at hl 0 rfl) ?_
    refine lv_aload_n hx hb dX0_power_22 rfl (lv_at hl 1 rfl) ?_
    refine lv_iload_n hx hb dX0_power_23 rfl (lv_at hl 3 rfl) ?_
    refine dp_Vi hF hK hN (c_X0_total l D G b R f _ hB) (cwV 1 hts gX0_power_X0_total rfl rfl rfl (by decide +kernel) ⟨Nat.le_of_ble_eq_true rfl, Nat.le_of_ble_eq_true rfl⟩) (dp_recv hK hB.1 rfl) hS nA_i [.int (gv R i f)] rfl rfl hl.1 (Nat.le_of_ble_eq_true rfl) dX0_power_24 ⟨Nat.le_of_ble_eq_true rfl, Nat.le_of_ble_eq_true rfl⟩ (fun rH3 H3 locs hp hzH3 hkH3 hS => ?_)
    obtain ⟨rfl, rfl⟩ := hp
    refine lv_aload_n hx hb dX0_power_27 rfl (lv_at hl 1 rfl) ?_
    refine dp_Vi hF hK hN (c_X0_demand l D G b R _ hB) (cwV 0 hts gX0_power_X0_demand rfl rfl rfl (by decide +kernel) ⟨Nat.le_of_ble_eq_true rfl, Nat.le_of_ble_eq_true rfl⟩) (dp_recv hK hB.1 rfl) hS nA_i [.int (tot R f), .int (gv R i f)] rfl rfl hl.1 (Nat.le_of_ble_eq_true rfl) dX0_power_28 ⟨Nat.le_of_ble_eq_true rfl, Nat.le_of_ble_eq_true rfl⟩ (fun rH4 H4 locs hp hzH4 hkH4 hS => ?_)
    obtain ⟨rfl, rfl⟩ := hp
    refine lv_isub hx hb dX0_power_31 ?_
    refine lv_iconst (v := 0) hx hb dX0_power_32 (by decide) ?_
    refine dp_max (rest := [.int (gv R i f)]) hx hb (hml.trans hl.1.symm) hown (hts (.methodLink RX0 73 Lib.Math.max.name) (List.mem_of_getElem? (i := 2) rfl)) (hts (.static Lib.Math.max.name) (List.mem_of_getElem? (i := 3) rfl)) (hts (.initialized "java/lang/Math") (List.mem_of_getElem? (i := 4) rfl)) (hts (.code Lib.Math.max.name Lib.Math.max.code 2 (some .int)) (List.mem_of_getElem? (i := 5) rfl)) (Nat.le_of_ble_eq_true rfl) (Nat.le_of_ble_eq_true rfl) (Nat.le_of_ble_eq_true rfl) (Nat.le_of_ble_eq_true rfl) dX0_power_33 ?_
    refine lv_isub hx hb dX0_power_36 ?_
    exact W.iret hx hb hr (fun t ht hW => ⟨⟨(gv R i f) - (mx ((tot R f) - (ld R)) 0), s.heap, rfl, ⟨rfl, by simp [pw, c1]⟩, ht⟩, hS.F ht⟩) hS.2.2 dX0_power_37
  refine lv_iload_n hx hb dX0_power_19 rfl (lv_at hl 0 rfl) ?_
  exact W.iret hx hb hr (fun t ht hW => ⟨⟨gv R i f, s.heap, rfl, ⟨rfl, by simp [pw, c1]⟩, ht⟩, hS.F ht⟩) hS.2.2 dX0_power_20

set_option maxHeartbeats 4000000 in
set_option maxRecDepth 100000 in
theorem c_X0_powers (l : Launch) (D : va_G) (G : Nat → ClassId) (b : Nat → Nat) (R : Nat → Int32) (f : Int32) (H : Heap) (hB : BD D G b R H) : Met l yX0_powers wsX0_powers ({ frames := 3, cells := 0, slots := 0, locals := 67 } : Room) (va_Pc [.ref (b 0), .int f] (CX D G H)) (QI nA (fun r h => H = h ∧ psum R f 3 = r)) 0 0 (nA) := by
  refine Met.ofW (cc := cX0_powers) (maxL := 4) (ret := (some .int)) (by decide) rfl ?_
  intro p e s m args below meth c s₁ B hml hv
  obtain ⟨rfl, rfl, hK, hN⟩ := hv
  have hx := B.exec
  have hb := B.bytes
  have hr := B.returns
  have hts := atoms_spec (ws := wsX0_powers) B.pre
  have hown : s.vm.findClass RX0 = some m.cls := findClass_of_methodNamed B.named
  have hlocks := B.notSynchronized
  have hF : CallFix p m c cX0_powers 4 s ([.ref (b 0), .int f] : List Value).toArray wsX0_powers RX0 := ⟨hx, hb, hml, hown, hts⟩
  have hS : va_S (nA) s.heap s.heap [] := va_S.rf
  have hl := lv_entry ([.ref (b 0), .int f]) (n := 4) (Nat.le_of_ble_eq_true rfl)
  rw [lg_entry_eq]
  generalize (lg_sl ([.ref (b 0), .int f]) ++ List.replicate (4 - (lg_sl ([.ref (b 0), .int f])).length) Slot.unset).toArray = ls at hl ⊢
  have hl : lv_has ls 4 [(0, .ref (b 0)), (1, .int f)] := hl
  refine lv_iconst (v := 0) hx hb dX0_powers_0 (by decide) ?_
  refine lv_istore_n (lv' := [(2, .int 0), (0, .ref (b 0)), (1, .int f)]) hx hb dX0_powers_1 rfl hl (by decide) rfl (fun ls hl => ?_)
  refine lv_iconst (v := 0) hx hb dX0_powers_2 (by decide) ?_
  refine lv_istore_n (lv' := [(3, .int 0), (2, .int 0), (0, .ref (b 0)), (1, .int f)]) hx hb dX0_powers_3 rfl hl (by decide) rfl (fun ls hl => ?_)
  have loop4 : ∀ (n : Nat) (i : Nat) (acc : Int32) (_ : i + n = 3) (_ : acc = psum R f i) (locs : List Loc) (_ : va_S (nA) s.heap s.heap locs) (ls : Array Slot) (_ : lv_has ls 4 [(0, .ref (b 0)), (1, .int f), (2, .int acc), (3, .int (nI i))]), W p l e (headSpec wsX0_powers ({ frames := 3, cells := 0, slots := 0, locals := 67 } : Room)).room s m ([.ref (b 0), .int f] : List Value).toArray below meth c s.heap locs 0 0 (MQ below (QI nA (fun r h => s.heap = h ∧ psum R f 3 = r)) ([.ref (b 0), .int f] : List Value).toArray s 0 0 (nA)) (F0 m 4 ls []) := by
    intro n
    induction n with
    | zero =>
      intro i acc hin hacc locs hS ls hl
      have hi9 : i = 3 := by omega
      rw [hi9] at hacc
      refine lv_iload_n hx hb dX0_powers_4 rfl (lv_at hl 3 rfl) ?_
      refine lv_aload_n hx hb dX0_powers_5 rfl (lv_at hl 0 rfl) ?_
      refine dp_get hx hb hts (dp_hin 40 rfl) hown hK hB.1 rfl 0 (by decide) (hts (.fieldLink RX0 11 "DroopBoard$Board" "diesels" "[LDroopBoard$Diesel;") (List.mem_of_getElem? (i := 1) rfl)) rfl dX0_powers_6 ?_
      refine dp_alen hx hb hK hB.2.1 1 rfl dX0_powers_9 ?_
      refine lv_icmp_ge (tgt := 28) hx hb dX0_powers_10 (by decide) (fun c1 => ?_) (fun c1 => absurd (nI_le (a := 3) (b := i) (by omega) (by omega)) c1)
      refine lv_iload_n hx hb dX0_powers_28 rfl (lv_at hl 2 rfl) ?_
      exact W.iret hx hb hr (fun t ht hW => ⟨⟨acc, s.heap, rfl, ⟨rfl, hacc.symm⟩, ht⟩, hS.F ht⟩) hS.2.2 dX0_powers_29
    | succ n ih4 =>
      intro i acc hin hacc locs hS ls hl
      refine lv_iload_n hx hb dX0_powers_4 rfl (lv_at hl 3 rfl) ?_
      refine lv_aload_n hx hb dX0_powers_5 rfl (lv_at hl 0 rfl) ?_
      refine dp_get hx hb hts (dp_hin 40 rfl) hown hK hB.1 rfl 0 (by decide) (hts (.fieldLink RX0 11 "DroopBoard$Board" "diesels" "[LDroopBoard$Diesel;") (List.mem_of_getElem? (i := 1) rfl)) rfl dX0_powers_6 ?_
      refine dp_alen hx hb hK hB.2.1 1 rfl dX0_powers_9 ?_
      refine lv_icmp_ge (tgt := 28) hx hb dX0_powers_10 (by decide) (fun c2 => absurd c2 (nI_ge (a := i) (b := 3) (by omega) (by omega))) (fun c2 => ?_)
      refine lv_iload_n hx hb dX0_powers_13 rfl (lv_at hl 2 rfl) ?_
      refine lv_aload_n hx hb dX0_powers_14 rfl (lv_at hl 0 rfl) ?_
      refine lv_iload_n hx hb dX0_powers_15 rfl (lv_at hl 3 rfl) ?_
      refine lv_iload_n hx hb dX0_powers_16 rfl (lv_at hl 1 rfl) ?_
      refine dp_Vi hF hK hN (c_X0_power l D G b R i f _ hB (by omega)) (cwV 2 hts gX0_powers_X0_power rfl rfl rfl (by decide +kernel) ⟨Nat.le_of_ble_eq_true rfl, Nat.le_of_ble_eq_true rfl⟩) (dp_recv hK hB.1 rfl) hS nA_i [.int acc] rfl rfl hl.1 (Nat.le_of_ble_eq_true rfl) dX0_powers_17 ⟨Nat.le_of_ble_eq_true rfl, Nat.le_of_ble_eq_true rfl⟩ (fun rH1 H1 locs hp hzH1 hkH1 hS => ?_)
      obtain ⟨rfl, rfl⟩ := hp
      refine lv_iadd hx hb dX0_powers_20 ?_
      refine lv_istore_n (lv' := [(2, .int (acc + (pw R i f))), (0, .ref (b 0)), (1, .int f), (3, .int (nI i))]) hx hb dX0_powers_21 rfl hl (by decide) rfl (fun ls hl => ?_)
      refine lv_iinc (v := nI (i + 1)) (lv' := [(3, .int (nI (i + 1))), (2, .int (acc + (pw R i f))), (0, .ref (b 0)), (1, .int f)]) hx hb dX0_powers_22 hl (k := 3) rfl (nI_1 i) (by decide) rfl (fun ls hl => ?_)
      refine lv_goto (tgt := 4) hx hb dX0_powers_25 (by decide) ?_
      exact ih4 (i + 1) (acc + (pw R i f)) (by omega) (by simp [psum, hacc]) _ hS _ (lv_sub hl [2, 3, 1, 0] rfl)
  exact loop4 3 0 0 rfl rfl _ hS _ (lv_sub hl [2, 3, 1, 0] rfl)

set_option maxHeartbeats 4000000 in
set_option maxRecDepth 100000 in
theorem c_X0_lack (l : Launch) (D : va_G) (G : Nat → ClassId) (b : Nat → Nat) (R : Nat → Int32) (f : Int32) (H : Heap) (hB : BD D G b R H) : Met l yX0_lack wsX0_lack ({ frames := 2, cells := 0, slots := 0, locals := 44 } : Room) (va_Pc [.ref (b 0), .int f] (CX D G H)) (QI nA (fun r h => H = h ∧ lk R f = r)) 0 0 (nA) := by
  refine Met.ofW (cc := cX0_lack) (maxL := 2) (ret := (some .int)) (by decide) rfl ?_
  intro p e s m args below meth c s₁ B hml hv
  obtain ⟨rfl, rfl, hK, hN⟩ := hv
  have hx := B.exec
  have hb := B.bytes
  have hr := B.returns
  have hts := atoms_spec (ws := wsX0_lack) B.pre
  have hown : s.vm.findClass RX0 = some m.cls := findClass_of_methodNamed B.named
  have hlocks := B.notSynchronized
  have hF : CallFix p m c cX0_lack 2 s ([.ref (b 0), .int f] : List Value).toArray wsX0_lack RX0 := ⟨hx, hb, hml, hown, hts⟩
  have hS : va_S (nA) s.heap s.heap [] := va_S.rf
  have hl := lv_entry ([.ref (b 0), .int f]) (n := 2) (Nat.le_of_ble_eq_true rfl)
  rw [lg_entry_eq]
  generalize (lg_sl ([.ref (b 0), .int f]) ++ List.replicate (2 - (lg_sl ([.ref (b 0), .int f])).length) Slot.unset).toArray = ls at hl ⊢
  have hl : lv_has ls 2 [(0, .ref (b 0)), (1, .int f)] := hl
  refine lv_aload_n hx hb dX0_lack_0 rfl (lv_at hl 0 rfl) ?_
  refine dp_Vi hF hK hN (c_X0_demand l D G b R _ hB) (cwV 0 hts gX0_lack_X0_demand rfl rfl rfl (by decide +kernel) ⟨Nat.le_of_ble_eq_true rfl, Nat.le_of_ble_eq_true rfl⟩) (dp_recv hK hB.1 rfl) hS nA_i [] rfl rfl hl.1 (Nat.le_of_ble_eq_true rfl) dX0_lack_1 ⟨Nat.le_of_ble_eq_true rfl, Nat.le_of_ble_eq_true rfl⟩ (fun rH1 H1 locs hp hzH1 hkH1 hS => ?_)
  obtain ⟨rfl, rfl⟩ := hp
  refine lv_aload_n hx hb dX0_lack_4 rfl (lv_at hl 0 rfl) ?_
  refine lv_iload_n hx hb dX0_lack_5 rfl (lv_at hl 1 rfl) ?_
  refine dp_Vi hF hK hN (c_X0_total l D G b R f _ hB) (cwV 1 hts gX0_lack_X0_total rfl rfl rfl (by decide +kernel) ⟨Nat.le_of_ble_eq_true rfl, Nat.le_of_ble_eq_true rfl⟩) (dp_recv hK hB.1 rfl) hS nA_i [.int (ld R)] rfl rfl hl.1 (Nat.le_of_ble_eq_true rfl) dX0_lack_6 ⟨Nat.le_of_ble_eq_true rfl, Nat.le_of_ble_eq_true rfl⟩ (fun rH2 H2 locs hp hzH2 hkH2 hS => ?_)
  obtain ⟨rfl, rfl⟩ := hp
  refine lv_isub hx hb dX0_lack_9 ?_
  refine lv_iconst (v := 0) hx hb dX0_lack_10 (by decide) ?_
  refine dp_max (rest := []) hx hb (hml.trans hl.1.symm) hown (hts (.methodLink RX0 73 Lib.Math.max.name) (List.mem_of_getElem? (i := 1) rfl)) (hts (.static Lib.Math.max.name) (List.mem_of_getElem? (i := 2) rfl)) (hts (.initialized "java/lang/Math") (List.mem_of_getElem? (i := 3) rfl)) (hts (.code Lib.Math.max.name Lib.Math.max.code 2 (some .int)) (List.mem_of_getElem? (i := 4) rfl)) (Nat.le_of_ble_eq_true rfl) (Nat.le_of_ble_eq_true rfl) (Nat.le_of_ble_eq_true rfl) (Nat.le_of_ble_eq_true rfl) dX0_lack_11 ?_
  exact W.iret hx hb hr (fun t ht hW => ⟨⟨mx ((ld R) - (tot R f)) 0, s.heap, rfl, ⟨rfl, rfl⟩, ht⟩, hS.F ht⟩) hS.2.2 dX0_lack_14

set_option maxHeartbeats 4000000 in
set_option maxRecDepth 100000 in
theorem c_X0_whyNotClosed (l : Launch) (D : va_G) (G : Nat → ClassId) (b : Nat → Nat) (R : Nat → Int32) (i : Nat) (H : Heap) (hB : BD D G b R H) (hi : i < 3) (hm : ∀ j k, j ≤ k → k ≤ 600 → fok R k = true → fok R j = true) : Met l yX0_whyNotClosed wsX0_whyNotClosed ({ frames := 3, cells := 0, slots := 0, locals := 69 } : Room) (va_Pc [.ref (b 0), .int (nI i)] (CX D G H)) (QI nA (fun r h => H = h ∧ rsn R i = r)) 0 0 (nA) := by
  refine Met.ofW (cc := cX0_whyNotClosed) (maxL := 3) (ret := (some .int)) (by decide) rfl ?_
  intro p e s m args below meth c s₁ B hml hv
  obtain ⟨rfl, rfl, hK, hN⟩ := hv
  have hx := B.exec
  have hb := B.bytes
  have hr := B.returns
  have hts := atoms_spec (ws := wsX0_whyNotClosed) B.pre
  have hown : s.vm.findClass RX0 = some m.cls := findClass_of_methodNamed B.named
  have hlocks := B.notSynchronized
  have hF : CallFix p m c cX0_whyNotClosed 3 s ([.ref (b 0), .int (nI i)] : List Value).toArray wsX0_whyNotClosed RX0 := ⟨hx, hb, hml, hown, hts⟩
  have hS : va_S (nA) s.heap s.heap [] := va_S.rf
  have hl := lv_entry ([.ref (b 0), .int (nI i)]) (n := 3) (Nat.le_of_ble_eq_true rfl)
  rw [lg_entry_eq]
  generalize (lg_sl ([.ref (b 0), .int (nI i)]) ++ List.replicate (3 - (lg_sl ([.ref (b 0), .int (nI i)])).length) Slot.unset).toArray = ls at hl ⊢
  have hl : lv_has ls 3 [(0, .ref (b 0)), (1, .int (nI i))] := hl
  refine lv_aload_n hx hb dX0_whyNotClosed_0 rfl (lv_at hl 0 rfl) ?_
  refine dp_get hx hb hts (dp_hin 47 rfl) hown hK hB.1 rfl 0 (by decide) (hts (.fieldLink RX0 11 "DroopBoard$Board" "diesels" "[LDroopBoard$Diesel;") (List.mem_of_getElem? (i := 1) rfl)) rfl dX0_whyNotClosed_1 ?_
  refine lv_iload_n hx hb dX0_whyNotClosed_4 rfl (lv_at hl 1 rfl) ?_
  refine dp_aald hx hb hK hB.2.1 1 rfl i rfl hi (by decide) rfl dX0_whyNotClosed_5 ?_
  refine lv_astore_n (lv' := [(2, .ref (b (4 + i))), (0, .ref (b 0)), (1, .int (nI i))]) hx hb dX0_whyNotClosed_6 rfl hl (by decide) rfl (fun ls hl => ?_)
  refine lv_aload_n hx hb dX0_whyNotClosed_7 rfl (lv_at hl 0 rfl) ?_
  refine dp_get hx hb hts (dp_hin 52 rfl) hown hK (hB.2.2.2.2.1 i hi) rfl 3 (by decide) (hts (.fieldLink RX0 82 "DroopBoard$Diesel" "runs" "Z") (List.mem_of_getElem? (i := 2) rfl)) rfl dX0_whyNotClosed_8 ?_
  refine lv_if_ne (tgt := 16) hx hb dX0_whyNotClosed_11 (by decide) (fun c1 => ?_) (fun c1 => ?_)
  · refine lv_aload_n hx hb dX0_whyNotClosed_16 rfl (lv_at hl 0 rfl) ?_
    refine dp_get hx hb hts (dp_hin 52 rfl) hown hK (hB.2.2.2.2.1 i hi) rfl 4 (by decide) (hts (.fieldLink RX0 45 "DroopBoard$Diesel" "closed" "Z") (List.mem_of_getElem? (i := 3) rfl)) rfl dX0_whyNotClosed_17 ?_
    refine lv_if_eq (tgt := 25) hx hb dX0_whyNotClosed_20 (by decide) (fun c2 => ?_) (fun c2 => ?_)
    · refine lv_aload_n hx hb dX0_whyNotClosed_25 rfl (lv_at hl 1 rfl) ?_
      refine dp_Vi hF hK hN (c_X0_alive l D G b R _ hB) (cwV 0 hts gX0_whyNotClosed_X0_alive rfl rfl rfl (by decide +kernel) ⟨Nat.le_of_ble_eq_true rfl, Nat.le_of_ble_eq_true rfl⟩) (dp_recv hK hB.1 rfl) hS nA_i [] rfl rfl hl.1 (Nat.le_of_ble_eq_true rfl) dX0_whyNotClosed_26 ⟨Nat.le_of_ble_eq_true rfl, Nat.le_of_ble_eq_true rfl⟩ (fun rH1 H1 locs hp hzH1 hkH1 hS => ?_)
      obtain ⟨rfl, rfl⟩ := hp
      refine lv_if_ne (tgt := 34) hx hb dX0_whyNotClosed_29 (by decide) (fun c3 => ?_) (fun c3 => ?_)
      · refine lv_aload_n hx hb dX0_whyNotClosed_34 rfl (lv_at hl 0 rfl) ?_
        refine dp_get hx hb hts (dp_hin 52 rfl) hown hK (hB.2.2.2.2.1 i hi) rfl 2 (by decide) (hts (.fieldLink RX0 85 "DroopBoard$Diesel" "speed" "I") (List.mem_of_getElem? (i := 4) rfl)) rfl dX0_whyNotClosed_35 ?_
        refine lv_aload_n hx hb dX0_whyNotClosed_38 rfl (lv_at hl 1 rfl) ?_
        refine dp_Vi hF hK hN (c_X0_frequency l D G b R _ hB hm) (cwV 0 hts gX0_whyNotClosed_X0_frequency rfl rfl rfl (by decide +kernel) ⟨Nat.le_of_ble_eq_true rfl, Nat.le_of_ble_eq_true rfl⟩) (dp_recv hK hB.1 rfl) hS nA_i [.int (R (10 + 10 * i))] rfl rfl hl.1 (Nat.le_of_ble_eq_true rfl) dX0_whyNotClosed_39 ⟨Nat.le_of_ble_eq_true rfl, Nat.le_of_ble_eq_true rfl⟩ (fun rH2 H2 locs hp hzH2 hkH2 hS => ?_)
        obtain ⟨rfl, rfl⟩ := hp
        refine lv_isub hx hb dX0_whyNotClosed_42 ?_
        refine dp_abs (rest := []) hx hb (hml.trans hl.1.symm) hown (hts (.methodLink RX0 91 Lib.Math.abs.name) (List.mem_of_getElem? (i := 5) rfl)) (hts (.static Lib.Math.abs.name) (List.mem_of_getElem? (i := 6) rfl)) (hts (.initialized "java/lang/Math") (List.mem_of_getElem? (i := 7) rfl)) (hts (.code Lib.Math.abs.name Lib.Math.abs.code 1 (some .int)) (List.mem_of_getElem? (i := 8) rfl)) (Nat.le_of_ble_eq_true rfl) (Nat.le_of_ble_eq_true rfl) (Nat.le_of_ble_eq_true rfl) (Nat.le_of_ble_eq_true rfl) dX0_whyNotClosed_43 ?_
        refine lv_aload_n hx hb dX0_whyNotClosed_46 rfl (lv_at hl 1 rfl) ?_
        refine dp_get hx hb hts (dp_hin 47 rfl) hown hK hB.1 rfl 2 (by decide) (hts (.fieldLink RX0 23 "DroopBoard$Board" "settings" "[I") (List.mem_of_getElem? (i := 9) rfl)) rfl dX0_whyNotClosed_47 ?_
        refine lv_iconst (v := 2) hx hb dX0_whyNotClosed_50 (by decide) ?_
        refine dp_iald hx hb hK hB.2.2.2.1 0 rfl 2 rfl (by decide) (by decide) dX0_whyNotClosed_51 ?_
        refine lv_icmp_le (tgt := 57) hx hb dX0_whyNotClosed_52 (by decide) (fun c4 => ?_) (fun c4 => ?_)
        · refine lv_aload_n hx hb dX0_whyNotClosed_57 rfl (lv_at hl 0 rfl) ?_
          refine dp_Vi hF hK hN (c_X1_lamps l D G (b (4 + i)) i R _ (hB.2.2.2.2.1 i hi)) (cwV 0 hts gX0_whyNotClosed_X1_lamps rfl rfl rfl (by decide +kernel) ⟨Nat.le_of_ble_eq_true rfl, Nat.le_of_ble_eq_true rfl⟩) (dp_recv hK (hB.2.2.2.2.1 i hi) rfl) hS nA_i [] rfl rfl hl.1 (Nat.le_of_ble_eq_true rfl) dX0_whyNotClosed_58 ⟨Nat.le_of_ble_eq_true rfl, Nat.le_of_ble_eq_true rfl⟩ (fun rH3 H3 locs hp hzH3 hkH3 hS => ?_)
          obtain ⟨rfl, rfl⟩ := hp
          refine lv_aload_n hx hb dX0_whyNotClosed_61 rfl (lv_at hl 1 rfl) ?_
          refine dp_get hx hb hts (dp_hin 47 rfl) hown hK hB.1 rfl 2 (by decide) (hts (.fieldLink RX0 23 "DroopBoard$Board" "settings" "[I") (List.mem_of_getElem? (i := 9) rfl)) rfl dX0_whyNotClosed_62 ?_
          refine lv_iconst (v := 3) hx hb dX0_whyNotClosed_65 (by decide) ?_
          refine dp_iald hx hb hK hB.2.2.2.1 0 rfl 3 rfl (by decide) (by decide) dX0_whyNotClosed_66 ?_
          refine lv_icmp_le (tgt := 74) hx hb dX0_whyNotClosed_67 (by decide) (fun c5 => ?_) (fun c5 => ?_)
          · refine lv_iconst (v := 0) hx hb dX0_whyNotClosed_74 (by decide) ?_
            exact W.iret hx hb hr (fun t ht hW => ⟨⟨0, s.heap, rfl, ⟨rfl, by simp [rsn, c1, c2, c3, c4, c5]⟩, ht⟩, hS.F ht⟩) hS.2.2 dX0_whyNotClosed_75
          refine lv_iconst (v := 4) hx hb dX0_whyNotClosed_70 (by decide) ?_
          refine lv_goto (tgt := 75) hx hb dX0_whyNotClosed_71 (by decide) ?_
          exact W.iret hx hb hr (fun t ht hW => ⟨⟨4, s.heap, rfl, ⟨rfl, by simp [rsn, c1, c2, c3, c4, c5]⟩, ht⟩, hS.F ht⟩) hS.2.2 dX0_whyNotClosed_75
        refine lv_iconst (v := 3) hx hb dX0_whyNotClosed_55 (by decide) ?_
        exact W.iret hx hb hr (fun t ht hW => ⟨⟨3, s.heap, rfl, ⟨rfl, by simp [rsn, c1, c2, c3, c4]⟩, ht⟩, hS.F ht⟩) hS.2.2 dX0_whyNotClosed_56
      refine lv_iconst (v := 0) hx hb dX0_whyNotClosed_32 (by decide) ?_
      exact W.iret hx hb hr (fun t ht hW => ⟨⟨0, s.heap, rfl, ⟨rfl, by simp [rsn, c1, c2, c3]⟩, ht⟩, hS.F ht⟩) hS.2.2 dX0_whyNotClosed_33
    refine lv_iconst (v := 2) hx hb dX0_whyNotClosed_23 (by decide) ?_
    exact W.iret hx hb hr (fun t ht hW => ⟨⟨2, s.heap, rfl, ⟨rfl, by simp [rsn, c1, c2]⟩, ht⟩, hS.F ht⟩) hS.2.2 dX0_whyNotClosed_24
  refine lv_iconst (v := 1) hx hb dX0_whyNotClosed_14 (by decide) ?_
  exact W.iret hx hb hr (fun t ht hW => ⟨⟨1, s.heap, rfl, ⟨rfl, by simp [rsn, c1]⟩, ht⟩, hS.F ht⟩) hS.2.2 dX0_whyNotClosed_15
end
section
/-! rows behind writes; what a tick does to a row -/
theorem dF_set {R : Nat → Int32} {i k : Nat} {x : Int32} (hk : k < 10) : (dF R i).set k (.int x) = dF (upd R (8 + k + 10 * i) x) i := by
  match k, hk with
  | 0, _ | 1, _ | 2, _ | 3, _ | 4, _ | 5, _ | 6, _ | 7, _ | 8, _ | 9, _ => simp [dF, upd]
theorem fF_set {R : Nat → Int32} {i k : Nat} {x : Int32} (hk : k < 3) : (fF R i).set k (.int x) = fF (upd R (38 + k + 3 * i) x) i := by
  match k, hk with
  | 0, _ | 1, _ | 2, _ => simp [fF, upd]
theorem upd_ne {R : Nat → Int32} {k j : Nat} {x : Int32} (h : j ≠ k) : upd R k x j = R j := by simp [upd, h]
theorem upd_eq {R : Nat → Int32} {k : Nat} {x : Int32} : upd R k x k = x := by simp [upd]
theorem BD.putD {D : va_G} {G : Nat → ClassId} {b : Nat → Nat} {R : Nat → Int32} {H H1 : Heap} {i k : Nat} {x : Int32} (hk : k < 10) (h : BD D G b R H) (hn : inj 11 b) (hi : i < 3) (ha : va_at D vwCl (b (4 + i), .inr (1, (dF R i).set k (.int x))) H1) (hq : ∀ q : Nat, q ≠ b (4 + i) → H1[q]? = H[q]?) : BD D G b (upd R (8 + k + 10 * i) x) H1 :=
  h.setD hn hi (by rw [← dF_set hk]; exact ha) (fun q _ hne => hq q hne) (fun j _ hj => upd_ne (by omega))
theorem BD.putF {D : va_G} {G : Nat → ClassId} {b : Nat → Nat} {R : Nat → Int32} {H H1 : Heap} {i k : Nat} {x : Int32} (hk : k < 3) (h : BD D G b R H) (hn : inj 11 b) (hi : i < 4) (ha : va_at D vwCl (b (7 + i), .inr (2, (fF R i).set k (.int x))) H1) (hq : ∀ q : Nat, q ≠ b (7 + i) → H1[q]? = H[q]?) : BD D G b (upd R (38 + k + 3 * i) x) H1 :=
  h.setF hn hi (by rw [← fF_set hk]; exact ha) (fun q _ hne => hq q hne) (fun j _ _ hj => upd_ne (by omega))
theorem BD.putT {D : va_G} {G : Nat → ClassId} {b : Nat → Nat} {R : Nat → Int32} {H H1 : Heap} {x : Int32} (h : BD D G b R H) (hn : inj 11 b) (ha : va_at D vwCl (b 0, .inr (0, (bF b R).set 3 (.int x))) H1) (hq : ∀ q : Nat, q ≠ b 0 → H1[q]? = H[q]?) : BD D G b (upd R 4 x) H1 :=
  h.setO hn ha (fun q _ hne => hq q hne) (fun j _ h4 _ => upd_ne h4)
theorem BD.putE {D : va_G} {G : Nat → ClassId} {b : Nat → Nat} {R : Nat → Int32} {H H1 : Heap} {x : Int32} (h : BD D G b R H) (hn : inj 11 b) (ha : va_at D vwCl (b 0, .inr (0, (bF b R).set 4 (.int x))) H1) (hq : ∀ q : Nat, q ≠ b 0 → H1[q]? = H[q]?) : BD D G b (upd R 7 x) H1 :=
  h.setO hn ha (fun q _ hne => hq q hne) (fun j _ _ h7 => upd_ne h7)
theorem BD.putS {D : va_G} {G : Nat → ClassId} {b : Nat → Nat} {R : Nat → Int32} {H H1 : Heap} {k : Nat} {x : Int32} (hk : k < 4) (h : BD D G b R H) (hn : inj 11 b) (ha : va_at D vwCl (b 3, .inl (G 0, 4, .inl (upd R k x))) H1) (hq : ∀ q : Nat, q ≠ b 3 → H1[q]? = H[q]?) : BD D G b (upd R k x) H1 :=
  h.setS hn ha (fun q _ hne => hq q hne) (fun j _ hj => upd_ne (by omega))
theorem BD.up5 {D : va_G} {G : Nat → ClassId} {b : Nat → Nat} {R : Nat → Int32} {H : Heap} {x : Int32} (h : BD D G b R H) : BD D G b (upd R 5 x) H := h.congr (fun k _ h5 _ => (upd_ne h5).symm)
theorem BD.up6 {D : va_G} {G : Nat → ClassId} {b : Nat → Nat} {R : Nat → Int32} {H : Heap} {x : Int32} (h : BD D G b R H) : BD D G b (upd R 6 x) H := h.congr (fun k _ _ h6 => (upd_ne h6).symm)
/-- a board elsewhere stays -/
theorem BD.off {D : va_G} {G : Nat → ClassId} {b : Nat → Nat} {R : Nat → Int32} {H H1 : Heap} {A : Nat → Prop} (h : BD D G b R H) (hk : ∀ q : Nat, q < H.size → ¬ A q → H1[q]? = H[q]?) (hd : ∀ k, k < 11 → ¬ A (b k)) : BD D G b R H1 := h.kept (fun k hk1 => hk _ (h.lt k hk1) (hd k hk1))
theorem BD.off1 {D : va_G} {G : Nat → ClassId} {b : Nat → Nat} {R : Nat → Int32} {H H1 : Heap} {a : Nat} (h : BD D G b R H) (hk : ∀ q : Nat, q ≠ a → H1[q]? = H[q]?) (hd : ∀ k, k < 11 → b k ≠ a) : BD D G b R H1 := h.kept (fun k hk1 => hk _ (hd k hk1))
def trd (R : Nat → Int32) (i : Nat) : Nat → Int32 := upd (rst (upd R (12 + 10 * i) 0) i) (17 + 10 * i) (R (17 + 10 * i) + 1)
def tr1 (R : Nat → Int32) (i : Nat) : Nat → Int32 := if R 0 ≤ R (14 + 10 * i) then trd R i else if R (15 + 10 * i) < R 1 then R else trd R i
def trc (R : Nat → Int32) (i : Nat) : Int32 := if R 0 ≤ R (14 + 10 * i) then 1 else if R (15 + 10 * i) < R 1 then 0 else 1
def trs (R : Nat → Int32) : Nat → Nat → Int32
  | 0 => R
  | k + 1 => tr1 (trs R k) k
def trm (R : Nat → Int32) : Nat → Int32
  | 0 => 0
  | k + 1 => trm R k + trc (trs R k) k
/-- the last feeder that can be shed, and one more; 0: none -/
def shk (R : Nat → Int32) : Nat → Nat
  | 0 => 0
  | k + 1 => if R (39 + 3 * k) = 0 then shk R k else if R (38 + 3 * k) ≤ 0 then shk R k else k + 1
def sh1 (R : Nat → Int32) (k : Nat) : Nat → Int32 := upd (upd R (39 + 3 * k) 0) (40 + 3 * k) (R (40 + 3 * k) + 1)
def shd (R : Nat → Int32) : Nat → Int32 := if shk R 4 = 0 then R else upd (sh1 R (shk R 4 - 1)) 6 (R 6 + 1)
def tA (R : Nat → Int32) : Nat → Int32 := upd R 7 (R 7 + (ld R - lk R (fq R)))
def tbs (R : Nat → Int32) : Nat → Nat → Int32
  | 0 => tA R
  | k + 1 => dtk (tbs R k) k (pw R k (fq R)) (fq R)
def tC (R : Nat → Int32) : Nat → Int32 := if lk R (fq R) ≤ 0 then tbs R 3 else shd (tbs R 3)
def tD (R : Nat → Int32) : Nat → Int32 := upd (tC R) 4 (tC R 4 + 1)
/-- the row behind a tick, and how many breakers trip -/
def tk (R : Nat → Int32) : Nat → Int32 := upd (trs (tD R) 3) 5 (R 5 + trm (tD R) 3)
def tkn (R : Nat → Int32) : Int32 := trm (tD R) 3
/-- what frequency and powers are found from -/
def pj (R R' : Nat → Int32) : Prop := (∀ i, i < 3 → R (8 + 10 * i) = R' (8 + 10 * i) ∧ R (9 + 10 * i) = R' (9 + 10 * i) ∧ R (10 + 10 * i) = R' (10 + 10 * i) ∧ R (12 + 10 * i) = R' (12 + 10 * i)) ∧ ∀ i, i < 4 → R (38 + 3 * i) = R' (38 + 3 * i) ∧ R (39 + 3 * i) = R' (39 + 3 * i)
theorem pj.rf {R : Nat → Int32} : pj R R := ⟨fun _ _ => ⟨rfl, rfl, rfl, rfl⟩, fun _ _ => ⟨rfl, rfl⟩⟩
theorem pj.symm {R R' : Nat → Int32} (h : pj R R') : pj R' R := ⟨fun i hi => ⟨(h.1 i hi).1.symm, (h.1 i hi).2.1.symm, (h.1 i hi).2.2.1.symm, (h.1 i hi).2.2.2.symm⟩, fun i hi => ⟨(h.2 i hi).1.symm, (h.2 i hi).2.symm⟩⟩
theorem pj.trans {R R' R2 : Nat → Int32} (h : pj R R') (g : pj R' R2) : pj R R2 := ⟨fun i hi => ⟨(h.1 i hi).1.trans (g.1 i hi).1, (h.1 i hi).2.1.trans (g.1 i hi).2.1, (h.1 i hi).2.2.1.trans (g.1 i hi).2.2.1, (h.1 i hi).2.2.2.trans (g.1 i hi).2.2.2⟩, fun i hi => ⟨(h.2 i hi).1.trans (g.2 i hi).1, (h.2 i hi).2.trans (g.2 i hi).2⟩⟩
theorem gv_c {R R' : Nat → Int32} (h : pj R R') {i : Nat} (hi : i < 3) (f : Int32) : gv R i f = gv R' i f := by
  obtain ⟨h1, h2, h3, h4⟩ := h.1 i hi
  simp only [gv, h1, h2, h3, h4]
theorem alv_c {R R' : Nat → Int32} (h : pj R R') : alv R = alv R' := by
  have h0 : R 12 = R' 12 := (h.1 0 (by omega)).2.2.2
  have h1 : R 22 = R' 22 := (h.1 1 (by omega)).2.2.2
  have h2 : R 32 = R' 32 := (h.1 2 (by omega)).2.2.2
  simp only [alv, h0, h1, h2]
theorem lsum_c {R R' : Nat → Int32} (h : pj R R') : ∀ k, k ≤ 4 → lsum R k = lsum R' k
  | 0, _ => rfl
  | k + 1, hk => by
    obtain ⟨h1, h2⟩ := h.2 k (by omega)
    simp only [lsum, h1, h2, lsum_c h k (by omega)]
theorem ld_c {R R' : Nat → Int32} (h : pj R R') : ld R = ld R' := by simp only [ld, alv_c h, lsum_c h 4 (by omega)]
theorem tsum_c {R R' : Nat → Int32} (h : pj R R') (f : Int32) : ∀ k, k ≤ 3 → tsum R f k = tsum R' f k
  | 0, _ => rfl
  | k + 1, hk => by simp only [tsum, gv_c h (show k < 3 by omega) f, tsum_c h f k (by omega)]
theorem tot_c {R R' : Nat → Int32} (h : pj R R') (f : Int32) : tot R f = tot R' f := tsum_c h f 3 (by omega)
theorem fok_c {R R' : Nat → Int32} (h : pj R R') : fok R = fok R' := by funext k; simp only [fok, ld_c h, tot_c h]
theorem fq_c {R R' : Nat → Int32} (h : pj R R') : fq R = fq R' := by simp only [fq, alv_c h, fok_c h]
theorem lw_c {R R' : Nat → Int32} (h : pj R R') : lw R = lw R' := by
  have h0 : R 12 = R' 12 := (h.1 0 (by omega)).2.2.2
  have h1 : R 22 = R' 22 := (h.1 1 (by omega)).2.2.2
  have h2 : R 32 = R' 32 := (h.1 2 (by omega)).2.2.2
  simp only [lw, h0, h1, h2]
theorem pw_c {R R' : Nat → Int32} (h : pj R R') {i : Nat} (hi : i < 3) (f : Int32) : pw R i f = pw R' i f := by simp only [pw, gv_c h hi, lw_c h, tot_c h, ld_c h]
theorem lk_c {R R' : Nat → Int32} (h : pj R R') (f : Int32) : lk R f = lk R' f := by simp only [lk, tot_c h, ld_c h]
/-- which numbers may change without a change of frequency and powers -/
theorem pj_of {R R' : Nat → Int32} (h : ∀ k, k < 50 → (k = 8 ∨ k = 9 ∨ k = 10 ∨ k = 12 ∨ k = 18 ∨ k = 19 ∨ k = 20 ∨ k = 22 ∨ k = 28 ∨ k = 29 ∨ k = 30 ∨ k = 32 ∨ k = 38 ∨ k = 39 ∨ k = 41 ∨ k = 42 ∨ k = 44 ∨ k = 45 ∨ k = 47 ∨ k = 48) → R k = R' k) : pj R R' := by
  refine ⟨fun i hi => ⟨h _ (by omega) (by omega), h _ (by omega) (by omega), h _ (by omega) (by omega), h _ (by omega) (by omega)⟩, fun i hi => ⟨h _ (by omega) (by omega), h _ (by omega) (by omega)⟩⟩
theorem dtk_at {R : Nat → Int32} {i : Nat} {w f : Int32} {k : Nat} (h : k ≠ 16 + 10 * i ∧ k ≠ 13 + 10 * i ∧ k ≠ 14 + 10 * i ∧ k ≠ 15 + 10 * i) : dtk R i w f k = R k := by
  obtain ⟨h1, h2, h3, h4⟩ := h
  unfold dtk
  split
  · split
    · rw [upd_ne h1]
    · split
      · rw [upd_ne h1]
      · rw [upd_ne h2, upd_ne h1]
  · rw [upd_ne h4, upd_ne h3, upd_ne h1]
theorem tbs_at {R : Nat → Int32} : ∀ (n : Nat) {k : Nat}, n ≤ 3 → k ≠ 7 → (∀ i, i < 3 → k ≠ 16 + 10 * i ∧ k ≠ 13 + 10 * i ∧ k ≠ 14 + 10 * i ∧ k ≠ 15 + 10 * i) → tbs R n k = R k
  | 0, k, _, h7, _ => upd_ne h7
  | n + 1, k, hn, h7, h => by
    rw [tbs, dtk_at (h n (by omega))]
    exact tbs_at n (by omega) h7 h
theorem tbs_pj {R : Nat → Int32} {n : Nat} (hn : n ≤ 3) : pj (tbs R n) R := pj_of (fun k hk h => tbs_at n hn (by omega) (fun i hi => by omega))
theorem pw_tbs {R : Nat → Int32} {n i : Nat} (hn : n ≤ 3) (hi : i < 3) (f : Int32) : pw (tbs R n) i f = pw R i f := pw_c (tbs_pj hn) hi f
/-- set by set, then feeder by feeder, then the rest of a row comes over -/
def cp1 (R R2 : Nat → Int32) (k : Nat) : Nat → Int32 := fun j => if 8 ≤ j ∧ j < 8 + 10 * k then R2 j else R j
def cp2 (R R2 : Nat → Int32) (k : Nat) : Nat → Int32 := fun j => if 8 ≤ j ∧ j < 38 + 3 * k then R2 j else R j
def cp3 (R R2 : Nat → Int32) (k : Nat) : Nat → Int32 := fun j => if 8 ≤ j ∨ j < k then R2 j else R j
theorem dF_cong {R R' : Nat → Int32} {i : Nat} (h : ∀ w, w < 10 → R (8 + w + 10 * i) = R' (8 + w + 10 * i)) : dF R i = dF R' i := by
  have h0 := h 0 (by omega); have h1 := h 1 (by omega); have h2 := h 2 (by omega); have h3 := h 3 (by omega); have h4 := h 4 (by omega); have h5 := h 5 (by omega); have h6 := h 6 (by omega); have h7 := h 7 (by omega); have h8 := h 8 (by omega); have h9 := h 9 (by omega)
  simp only [dF, Nat.reduceAdd, Nat.add_zero] at *
  rw [h0, h1, h2, h3, h4, h5, h6, h7, h8, h9]
theorem fF_cong {R R' : Nat → Int32} {i : Nat} (h : ∀ w, w < 3 → R (38 + w + 3 * i) = R' (38 + w + 3 * i)) : fF R i = fF R' i := by
  have h0 := h 0 (by omega); have h1 := h 1 (by omega); have h2 := h 2 (by omega)
  simp only [fF, Nat.reduceAdd, Nat.add_zero] at *
  rw [h0, h1, h2]
theorem BD.cpD {D : va_G} {G : Nat → ClassId} {b : Nat → Nat} {R R2 : Nat → Int32} {H H1 : Heap} {i : Nat} (h : BD D G b (cp1 R R2 i) H) (hn : inj 11 b) (hi : i < 3) (ha : va_at D vwCl (b (4 + i), .inr (1, dF R2 i)) H1) (hq : ∀ q : Nat, q < H.size → q ≠ b (4 + i) → H1[q]? = H[q]?) : BD D G b (cp1 R R2 (i + 1)) H1 :=
  h.setD hn hi (by rw [show dF (cp1 R R2 (i + 1)) i = dF R2 i from dF_cong (fun w hw => by rw [cp1, if_pos (by omega)])]; exact ha) hq (fun k _ hk => by
    by_cases q : 8 ≤ k ∧ k < 8 + 10 * i
    · rw [cp1, cp1, if_pos (by omega), if_pos q]
    · rw [cp1, cp1, if_neg (by omega), if_neg q])
theorem BD.cpF {D : va_G} {G : Nat → ClassId} {b : Nat → Nat} {R R2 : Nat → Int32} {H H1 : Heap} {i : Nat} (h : BD D G b (cp2 R R2 i) H) (hn : inj 11 b) (hi : i < 4) (ha : va_at D vwCl (b (7 + i), .inr (2, fF R2 i)) H1) (hq : ∀ q : Nat, q < H.size → q ≠ b (7 + i) → H1[q]? = H[q]?) : BD D G b (cp2 R R2 (i + 1)) H1 :=
  h.setF hn hi (by rw [show fF (cp2 R R2 (i + 1)) i = fF R2 i from fF_cong (fun w hw => by rw [cp2, if_pos (by omega)])]; exact ha) hq (fun k _ _ hk => by
    by_cases q : 8 ≤ k ∧ k < 38 + 3 * i
    · rw [cp2, cp2, if_pos (by omega), if_pos q]
    · rw [cp2, cp2, if_neg (by omega), if_neg q])
theorem BD.cpS0 {D : va_G} {G : Nat → ClassId} {b : Nat → Nat} {R R2 : Nat → Int32} {H : Heap} (h : BD D G b (cp2 R R2 4) H) : BD D G b (cp3 R R2 0) H := h.congr (fun k hk _ _ => by
  by_cases q : 8 ≤ k
  · rw [cp2, cp3, if_pos (by omega), if_pos (by omega)]
  · rw [cp2, cp3, if_neg (by omega), if_neg (by omega)])
theorem BD.cpS {D : va_G} {G : Nat → ClassId} {b : Nat → Nat} {R R2 : Nat → Int32} {H H1 : Heap} {i : Nat} (h : BD D G b (cp3 R R2 i) H) (hn : inj 11 b) (hi : i < 4) (ha : va_at D vwCl (b 3, .inl (G 0, 4, .inl (upd (cp3 R R2 i) i (R2 i)))) H1) (hq : ∀ q : Nat, q ≠ b 3 → H1[q]? = H[q]?) : BD D G b (cp3 R R2 (i + 1)) H1 :=
  (h.putS hi hn ha hq).congr (fun k hk _ _ => by
    by_cases e : k = i
    · subst e; rw [upd_eq, cp3, if_pos (by omega)]
    · rw [upd_ne e]
      by_cases q : 8 ≤ k ∨ k < i
      · rw [cp3, cp3, if_pos q, if_pos (by omega)]
      · rw [cp3, cp3, if_neg q, if_neg (by omega)])
theorem BD.cpE {D : va_G} {G : Nat → ClassId} {b : Nat → Nat} {R R2 : Nat → Int32} {H : Heap} (h : BD D G b (upd (upd (cp3 R R2 4) 4 (R2 4)) 7 (R2 7)) H) : BD D G b R2 H := h.congr (fun k hk h5 h6 => by
  by_cases e7 : k = 7
  · subst e7; rw [upd_eq]
  · rw [upd_ne e7]
    by_cases e4 : k = 4
    · subst e4; rw [upd_eq]
    · rw [upd_ne e4, cp3, if_pos (by omega)])
def bz (R : Nat → Int32) : Prop := (∀ i, i < 3 → (R (11 + 10 * i) = 0 ∨ R (11 + 10 * i) = 1) ∧ (R (12 + 10 * i) = 0 ∨ R (12 + 10 * i) = 1)) ∧ ∀ i, i < 4 → R (39 + 3 * i) = 0 ∨ R (39 + 3 * i) = 1
def mono (R : Nat → Int32) : Prop := ∀ j k, j ≤ k → k ≤ 600 → fok R k = true → fok R j = true
theorem mono_c {R R' : Nat → Int32} (h : pj R R') (hm : mono R) : mono R' := by
  unfold mono
  rw [← fok_c h]
  exact hm
def pt (R : Nat → Int32) : Nat → Nat → Int32
  | 0 => R
  | k + 1 => tk (pt R k)
def ptn (R : Nat → Int32) : Nat → Int32
  | 0 => 0
  | k + 1 => ptn R k + tkn (pt R k)
theorem rst_at {R : Nat → Int32} {i k : Nat} (h : k ≠ 13 + 10 * i ∧ k ≠ 14 + 10 * i ∧ k ≠ 15 + 10 * i) : rst R i k = R k := by
  unfold rst
  rw [upd_ne h.2.2, upd_ne h.2.1, upd_ne h.1]
theorem rst17 {R : Nat → Int32} {i : Nat} : rst (upd R (12 + 10 * i) 0) i (17 + 10 * i) = R (17 + 10 * i) := by
  rw [rst_at (by omega), upd_ne (by omega)]
theorem BD.rstD {D : va_G} {G : Nat → ClassId} {b : Nat → Nat} {R : Nat → Int32} {H H1 : Heap} {i k : Nat} {x : Int32} (hk : k = 11 ∨ k = 12) (h : BD D G b R H) (hn : inj 11 b) (hi : i < 3) (ha : va_at D vwCl (b (4 + i), .inr (1, dF (rst (upd R (k + 10 * i) x) i) i)) H1) (hq : ∀ q : Nat, q < H.size → q ≠ b (4 + i) → H1[q]? = H[q]?) : BD D G b (rst (upd R (k + 10 * i) x) i) H1 :=
  h.setD hn hi ha hq (fun j _ hj => by rw [rst_at (by omega), upd_ne (by omega)])
theorem BD.dtkD {D : va_G} {G : Nat → ClassId} {b : Nat → Nat} {R : Nat → Int32} {H H1 : Heap} {i : Nat} {w f : Int32} (h : BD D G b R H) (hn : inj 11 b) (hi : i < 3) (ha : va_at D vwCl (b (4 + i), .inr (1, dF (dtk R i w f) i)) H1) (hq : ∀ q : Nat, q < H.size → q ≠ b (4 + i) → H1[q]? = H[q]?) : BD D G b (dtk R i w f) H1 :=
  h.setD hn hi ha hq (fun j _ hj => dtk_at (by omega))
theorem shk_le (R : Nat → Int32) : ∀ n, shk R n ≤ n
  | 0 => Nat.le_refl _
  | n + 1 => by
    have := shk_le R n
    unfold shk
    split
    · omega
    · split
      · omega
      · omega
end
section
theorem dX2_init_0 : decode cX2_init 0 = .ok (.aload_n 0, 1) := by decide +kernel
theorem dX2_init_1 : decode cX2_init 1 = .ok (.invokespecial 1, 3) := by decide +kernel
theorem dX2_init_4 : decode cX2_init 4 = .ok (.aload_n 0, 1) := by decide +kernel
theorem dX2_init_5 : decode cX2_init 5 = .ok (.iconst 1, 1) := by decide +kernel
theorem dX2_init_6 : decode cX2_init 6 = .ok (.putfield 7, 3) := by decide +kernel
theorem dX2_init_9 : decode cX2_init 9 = .ok (.return_, 1) := by decide +kernel
theorem dX2_copyFrom_0 : decode cX2_copyFrom 0 = .ok (.aload_n 0, 1) := by decide +kernel
theorem dX2_copyFrom_1 : decode cX2_copyFrom 1 = .ok (.aload_n 1, 1) := by decide +kernel
theorem dX2_copyFrom_2 : decode cX2_copyFrom 2 = .ok (.getfield 13, 3) := by decide +kernel
theorem dX2_copyFrom_5 : decode cX2_copyFrom 5 = .ok (.putfield 13, 3) := by decide +kernel
theorem dX2_copyFrom_8 : decode cX2_copyFrom 8 = .ok (.aload_n 0, 1) := by decide +kernel
theorem dX2_copyFrom_9 : decode cX2_copyFrom 9 = .ok (.aload_n 1, 1) := by decide +kernel
theorem dX2_copyFrom_10 : decode cX2_copyFrom 10 = .ok (.getfield 7, 3) := by decide +kernel
theorem dX2_copyFrom_13 : decode cX2_copyFrom 13 = .ok (.putfield 7, 3) := by decide +kernel
theorem dX2_copyFrom_16 : decode cX2_copyFrom 16 = .ok (.aload_n 0, 1) := by decide +kernel
theorem dX2_copyFrom_17 : decode cX2_copyFrom 17 = .ok (.aload_n 1, 1) := by decide +kernel
theorem dX2_copyFrom_18 : decode cX2_copyFrom 18 = .ok (.getfield 17, 3) := by decide +kernel
theorem dX2_copyFrom_21 : decode cX2_copyFrom 21 = .ok (.putfield 17, 3) := by decide +kernel
theorem dX2_copyFrom_24 : decode cX2_copyFrom 24 = .ok (.return_, 1) := by decide +kernel
end
section
set_option maxHeartbeats 4000000 in
set_option maxRecDepth 100000 in
theorem c_X2_copyFrom (l : Launch) (D : va_G) (G : Nat → ClassId) (a o i j : Nat) (R R2 : Nat → Int32) (H : Heap) (ha : va_at D vwCl (a, .inr (2, fF R i)) H) (ho : va_at D vwCl (o, .inr (2, fF R2 j)) H) (hne : o ≠ a) (hz1 : R2 (39 + 3 * j) = 0 ∨ R2 (39 + 3 * j) = 1) : Met l yX2_copyFrom wsX2_copyFrom ({ frames := 0, cells := 0, slots := 0, locals := 0 } : Room) (va_Pc [.ref a, .ref o] (CX D G H)) (QV (fun q => q = a) (fun h => Array.size h = Array.size H ∧ va_at D vwCl (a, .inr (2, fF R2 j)) h)) 0 0 (fun q => q = a) := by
  refine Met.ofW (cc := cX2_copyFrom) (maxL := 2) (ret := none) (by decide) rfl ?_
  intro p e s m args below meth c s₁ B hml hv
  obtain ⟨rfl, rfl, hK, hN⟩ := hv
  have hx := B.exec
  have hb := B.bytes
  have hr := B.returns
  have hts := atoms_spec (ws := wsX2_copyFrom) B.pre
  have hown : s.vm.findClass RX2 = some m.cls := findClass_of_methodNamed B.named
  have hlocks := B.notSynchronized
  have hF : CallFix p m c cX2_copyFrom 2 s ([.ref a, .ref o] : List Value).toArray wsX2_copyFrom RX2 := ⟨hx, hb, hml, hown, hts⟩
  have hS : va_S (fun q => q = a) s.heap s.heap [] := va_S.rf
  have hl := lv_entry ([.ref a, .ref o]) (n := 2) (Nat.le_of_ble_eq_true rfl)
  rw [lg_entry_eq]
  generalize (lg_sl ([.ref a, .ref o]) ++ List.replicate (2 - (lg_sl ([.ref a, .ref o])).length) Slot.unset).toArray = ls at hl ⊢
  have hl : lv_has ls 2 [(0, .ref a), (1, .ref o)] := hl
  refine lv_aload_n hx hb dX2_copyFrom_0 rfl (lv_at hl 0 rfl) ?_
  refine lv_aload_n hx hb dX2_copyFrom_1 rfl (lv_at hl 1 rfl) ?_
  refine dp_get hx hb hts (dp_hin 4 rfl) hown hK ho rfl 0 (by decide) (hts (.fieldLink RX2 13 "DroopBoard$Feeder" "load" "I") (List.mem_of_getElem? (i := 1) rfl)) rfl dX2_copyFrom_2 ?_
  refine dp_put (A := fun q => q = a) (v := .int (R2 (38 + 3 * j))) hx hb hts (dp_hin 4 rfl) tyX2 tyX2_ok nmX2 hown hK ha rfl hS rfl 0 (by decide) (hts (.fieldLink RX2 13 "DroopBoard$Feeder" "load" "I") (List.mem_of_getElem? (i := 1) rfl)) rfl rfl rfl (Nat.le_of_ble_eq_true rfl) dX2_copyFrom_5 (fun H1 locs hH1 hzH1 hkH1 hS => ?_)
  have ho := ho.kept (hkH1 _ hne)
  refine lv_aload_n hx hb dX2_copyFrom_8 rfl (lv_at hl 0 rfl) ?_
  refine lv_aload_n hx hb dX2_copyFrom_9 rfl (lv_at hl 1 rfl) ?_
  refine dp_get hx hb hts (dp_hin 4 rfl) hown hK ho rfl 1 (by decide) (hts (.fieldLink RX2 7 "DroopBoard$Feeder" "on" "Z") (List.mem_of_getElem? (i := 2) rfl)) rfl dX2_copyFrom_10 ?_
  refine dp_put (A := fun q => q = a) (v := .int (R2 (39 + 3 * j))) hx hb hts (dp_hin 4 rfl) tyX2 tyX2_ok nmX2 hown hK hH1 rfl hS rfl 1 (by decide) (hts (.fieldLink RX2 7 "DroopBoard$Feeder" "on" "Z") (List.mem_of_getElem? (i := 2) rfl)) rfl (nz_n hz1) (nz_f hz1) (Nat.le_of_ble_eq_true rfl) dX2_copyFrom_13 (fun H2 locs hH2 hzH2 hkH2 hS => ?_)
  have ho := ho.kept (hkH2 _ hne)
  refine lv_aload_n hx hb dX2_copyFrom_16 rfl (lv_at hl 0 rfl) ?_
  refine lv_aload_n hx hb dX2_copyFrom_17 rfl (lv_at hl 1 rfl) ?_
  refine dp_get hx hb hts (dp_hin 4 rfl) hown hK ho rfl 2 (by decide) (hts (.fieldLink RX2 17 "DroopBoard$Feeder" "sheds" "I") (List.mem_of_getElem? (i := 3) rfl)) rfl dX2_copyFrom_18 ?_
  refine dp_put (A := fun q => q = a) (v := .int (R2 (40 + 3 * j))) hx hb hts (dp_hin 4 rfl) tyX2 tyX2_ok nmX2 hown hK hH2 rfl hS rfl 2 (by decide) (hts (.fieldLink RX2 17 "DroopBoard$Feeder" "sheds" "I") (List.mem_of_getElem? (i := 3) rfl)) rfl rfl rfl (Nat.le_of_ble_eq_true rfl) dX2_copyFrom_21 (fun H3 locs hH3 hzH3 hkH3 hS => ?_)
  have ho := ho.kept (hkH3 _ hne)
  exact W.vret hx hb hr (fun t ht hW => ⟨⟨H3, rfl, ⟨(hzH3.trans (hzH2.trans hzH1)), hH3⟩, ht⟩, hS.F ht⟩) hS.2.2 dX2_copyFrom_24

set_option maxHeartbeats 4000000 in
set_option maxRecDepth 100000 in
theorem c_X0_copyFrom (l : Launch) (D : va_G) (G : Nat → ClassId) (b o : Nat → Nat) (R R2 : Nat → Int32) (H : Heap) (hB : BD D G b R H) (hO : BD D G o R2 H) (hn : inj 11 b) (hdis : ∀ i j, i < 11 → j < 11 → b i ≠ o j) (hbz : bz R2) : Met l yX0_copyFrom wsX0_copyFrom ({ frames := 1, cells := 0, slots := 0, locals := 21 } : Room) (va_Pc [.ref (b 0), .ref (o 0)] (CX D G H)) (QV (bA 11 b) (fun h => Array.size h = Array.size H ∧ BD D G b (R2) h)) 0 0 (bA 11 b) := by
  refine Met.ofW (cc := cX0_copyFrom) (maxL := 3) (ret := none) (by decide) rfl ?_
  intro p e s m args below meth c s₁ B hml hv
  obtain ⟨rfl, rfl, hK, hN⟩ := hv
  have hx := B.exec
  have hb := B.bytes
  have hr := B.returns
  have hts := atoms_spec (ws := wsX0_copyFrom) B.pre
  have hown : s.vm.findClass RX0 = some m.cls := findClass_of_methodNamed B.named
  have hlocks := B.notSynchronized
  have hF : CallFix p m c cX0_copyFrom 3 s ([.ref (b 0), .ref (o 0)] : List Value).toArray wsX0_copyFrom RX0 := ⟨hx, hb, hml, hown, hts⟩
  have hS : va_S (bA 11 b) s.heap s.heap [] := va_S.rf
  have hl := lv_entry ([.ref (b 0), .ref (o 0)]) (n := 3) (Nat.le_of_ble_eq_true rfl)
  rw [lg_entry_eq]
  generalize (lg_sl ([.ref (b 0), .ref (o 0)]) ++ List.replicate (3 - (lg_sl ([.ref (b 0), .ref (o 0)])).length) Slot.unset).toArray = ls at hl ⊢
  have hl : lv_has ls 3 [(0, .ref (b 0)), (1, .ref (o 0))] := hl
  have hsz : Array.size s.heap = Array.size s.heap := rfl
  refine lv_iconst (v := 0) hx hb dX0_copyFrom_0 (by decide) ?_
  refine lv_istore_n (lv' := [(2, .int 0), (0, .ref (b 0)), (1, .ref (o 0))]) hx hb dX0_copyFrom_1 rfl hl (by decide) rfl (fun ls hl => ?_)
  have loop2 : ∀ (n : Nat) (i : Nat) (Hh : Heap) (_ : i + n = 3) (_ : BD D G b (cp1 R R2 i) Hh) (_ : BD D G o R2 Hh) (_ : Array.size Hh = Array.size s.heap) (locs : List Loc) (_ : va_S (bA 11 b) s.heap Hh locs) (ls : Array Slot) (_ : lv_has ls 3 [(0, .ref (b 0)), (1, .ref (o 0)), (2, .int (nI i))]), W p l e (headSpec wsX0_copyFrom ({ frames := 1, cells := 0, slots := 0, locals := 21 } : Room)).room s m ([.ref (b 0), .ref (o 0)] : List Value).toArray below meth c Hh locs 0 0 (MQ below (QV (bA 11 b) (fun h => Array.size h = Array.size s.heap ∧ BD D G b (R2) h)) ([.ref (b 0), .ref (o 0)] : List Value).toArray s 0 0 (bA 11 b)) (F0 m 2 ls []) := by
    intro n
    induction n with
    | zero =>
      intro i Hh hin hB hO hsz locs hS ls hl
      have hi9 : i = 3 := by omega
      have hB : BD D G b (cp2 R R2 0) Hh := by rw [hi9] at hB; exact hB
      refine lv_iload_n hx hb dX0_copyFrom_2 rfl (lv_at hl 2 rfl) ?_
      refine lv_iconst (v := 3) hx hb dX0_copyFrom_3 (by decide) ?_
      refine lv_icmp_ge (tgt := 28) hx hb dX0_copyFrom_4 (by decide) (fun c1 => ?_) (fun c1 => absurd (nI_le (a := 3) (b := i) (by omega) (by omega)) c1)
      refine lv_iconst (v := 0) hx hb dX0_copyFrom_28 (by decide) ?_
      refine lv_istore_n (lv' := [(2, .int 0), (0, .ref (b 0)), (1, .ref (o 0))]) hx hb dX0_copyFrom_29 rfl hl (by decide) rfl (fun ls hl => ?_)
      have loop30 : ∀ (n : Nat) (i : Nat) (Hg : Heap) (_ : i + n = 4) (_ : BD D G b (cp2 R R2 i) Hg) (_ : BD D G o R2 Hg) (_ : Array.size Hg = Array.size s.heap) (locs : List Loc) (_ : va_S (bA 11 b) s.heap Hg locs) (ls : Array Slot) (_ : lv_has ls 3 [(0, .ref (b 0)), (1, .ref (o 0)), (2, .int (nI i))]), W p l e (headSpec wsX0_copyFrom ({ frames := 1, cells := 0, slots := 0, locals := 21 } : Room)).room s m ([.ref (b 0), .ref (o 0)] : List Value).toArray below meth c Hg locs 0 0 (MQ below (QV (bA 11 b) (fun h => Array.size h = Array.size s.heap ∧ BD D G b (R2) h)) ([.ref (b 0), .ref (o 0)] : List Value).toArray s 0 0 (bA 11 b)) (F0 m 30 ls []) := by
        intro n
        induction n with
        | zero =>
          intro i Hg hin hB hO hsz locs hS ls hl
          have hi9 : i = 4 := by omega
          have hB : BD D G b (cp3 R R2 0) Hg := BD.cpS0 (by rw [hi9] at hB; exact hB)
          refine lv_iload_n hx hb dX0_copyFrom_30 rfl (lv_at hl 2 rfl) ?_
          refine lv_iconst (v := 4) hx hb dX0_copyFrom_31 (by decide) ?_
          refine lv_icmp_ge (tgt := 56) hx hb dX0_copyFrom_32 (by decide) (fun c2 => ?_) (fun c2 => absurd (nI_le (a := 4) (b := i) (by omega) (by omega)) c2)
          refine lv_iconst (v := 0) hx hb dX0_copyFrom_56 (by decide) ?_
          refine lv_istore_n (lv' := [(2, .int 0), (0, .ref (b 0)), (1, .ref (o 0))]) hx hb dX0_copyFrom_57 rfl hl (by decide) rfl (fun ls hl => ?_)
          have loop58 : ∀ (n : Nat) (i : Nat) (Hf : Heap) (_ : i + n = 4) (_ : BD D G b (cp3 R R2 i) Hf) (_ : BD D G o R2 Hf) (_ : Array.size Hf = Array.size s.heap) (locs : List Loc) (_ : va_S (bA 11 b) s.heap Hf locs) (ls : Array Slot) (_ : lv_has ls 3 [(0, .ref (b 0)), (1, .ref (o 0)), (2, .int (nI i))]), W p l e (headSpec wsX0_copyFrom ({ frames := 1, cells := 0, slots := 0, locals := 21 } : Room)).room s m ([.ref (b 0), .ref (o 0)] : List Value).toArray below meth c Hf locs 0 0 (MQ below (QV (bA 11 b) (fun h => Array.size h = Array.size s.heap ∧ BD D G b (R2) h)) ([.ref (b 0), .ref (o 0)] : List Value).toArray s 0 0 (bA 11 b)) (F0 m 58 ls []) := by
            intro n
            induction n with
            | zero =>
              intro i Hf hin hB hO hsz locs hS ls hl
              have hi9 : i = 4 := by omega
              rw [hi9] at hB
              refine lv_iload_n hx hb dX0_copyFrom_58 rfl (lv_at hl 2 rfl) ?_
              refine lv_iconst (v := 4) hx hb dX0_copyFrom_59 (by decide) ?_
              refine lv_icmp_ge (tgt := 81) hx hb dX0_copyFrom_60 (by decide) (fun c3 => ?_) (fun c3 => absurd (nI_le (a := 4) (b := i) (by omega) (by omega)) c3)
              refine lv_aload_n hx hb dX0_copyFrom_81 rfl (lv_at hl 0 rfl) ?_
              refine lv_aload_n hx hb dX0_copyFrom_82 rfl (lv_at hl 1 rfl) ?_
              refine dp_get hx hb hts (dp_hin 29 rfl) hown hK hO.1 rfl 3 (by decide) (hts (.fieldLink RX0 38 "DroopBoard$Board" "ticks" "I") (List.mem_of_getElem? (i := 4) rfl)) rfl dX0_copyFrom_83 ?_
              refine dp_put (A := bA 11 b) (v := .int (R2 4)) hx hb hts (dp_hin 29 rfl) tyX0 tyX0_ok nmX0 hown hK hB.1 ⟨0, by omega, rfl⟩ hS rfl 3 (by decide) (hts (.fieldLink RX0 38 "DroopBoard$Board" "ticks" "I") (List.mem_of_getElem? (i := 4) rfl)) rfl rfl rfl (Nat.le_of_ble_eq_true rfl) dX0_copyFrom_86 (fun H1 locs hH1 hzH1 hkH1 hS => ?_)
              have hB : BD D G b (upd (cp3 R R2 4) 4 (R2 4)) H1 := BD.putT hB hn hH1 hkH1
              have hsz := hzH1.trans hsz
              have hO := hO.off1 hkH1 (fun k hk e => hdis 0 k (by omega) hk e.symm)
              refine lv_aload_n hx hb dX0_copyFrom_89 rfl (lv_at hl 0 rfl) ?_
              refine lv_aload_n hx hb dX0_copyFrom_90 rfl (lv_at hl 1 rfl) ?_
              refine dp_get hx hb hts (dp_hin 29 rfl) hown hK hO.1 rfl 4 (by decide) (hts (.fieldLink RX0 42 "DroopBoard$Board" "energy" "I") (List.mem_of_getElem? (i := 5) rfl)) rfl dX0_copyFrom_91 ?_
              refine dp_put (A := bA 11 b) (v := .int (R2 7)) hx hb hts (dp_hin 29 rfl) tyX0 tyX0_ok nmX0 hown hK hB.1 ⟨0, by omega, rfl⟩ hS rfl 4 (by decide) (hts (.fieldLink RX0 42 "DroopBoard$Board" "energy" "I") (List.mem_of_getElem? (i := 5) rfl)) rfl rfl rfl (Nat.le_of_ble_eq_true rfl) dX0_copyFrom_94 (fun H2 locs hH2 hzH2 hkH2 hS => ?_)
              have hB : BD D G b (upd (upd (cp3 R R2 4) 4 (R2 4)) 7 (R2 7)) H2 := BD.putE hB hn hH2 hkH2
              have hsz := hzH2.trans hsz
              have hO := hO.off1 hkH2 (fun k hk e => hdis 0 k (by omega) hk e.symm)
              exact W.vret hx hb hr (fun t ht hW => ⟨⟨H2, rfl, ⟨hsz, hB.cpE⟩, ht⟩, hS.F ht⟩) hS.2.2 dX0_copyFrom_97
            | succ n ih58 =>
              intro i Hf hin hB hO hsz locs hS ls hl
              refine lv_iload_n hx hb dX0_copyFrom_58 rfl (lv_at hl 2 rfl) ?_
              refine lv_iconst (v := 4) hx hb dX0_copyFrom_59 (by decide) ?_
              refine lv_icmp_ge (tgt := 81) hx hb dX0_copyFrom_60 (by decide) (fun c4 => absurd c4 (nI_ge (a := i) (b := 4) (by omega) (by omega))) (fun c4 => ?_)
              refine lv_aload_n hx hb dX0_copyFrom_63 rfl (lv_at hl 0 rfl) ?_
              refine dp_get hx hb hts (dp_hin 29 rfl) hown hK hB.1 rfl 2 (by decide) (hts (.fieldLink RX0 23 "DroopBoard$Board" "settings" "[I") (List.mem_of_getElem? (i := 3) rfl)) rfl dX0_copyFrom_64 ?_
              refine lv_iload_n hx hb dX0_copyFrom_67 rfl (lv_at hl 2 rfl) ?_
              refine lv_aload_n hx hb dX0_copyFrom_68 rfl (lv_at hl 1 rfl) ?_
              refine dp_get hx hb hts (dp_hin 29 rfl) hown hK hO.1 rfl 2 (by decide) (hts (.fieldLink RX0 23 "DroopBoard$Board" "settings" "[I") (List.mem_of_getElem? (i := 3) rfl)) rfl dX0_copyFrom_69 ?_
              refine lv_iload_n hx hb dX0_copyFrom_72 rfl (lv_at hl 2 rfl) ?_
              refine dp_iald hx hb hK hO.2.2.2.1 0 rfl i rfl (by omega) (by decide) dX0_copyFrom_73 ?_
              refine dp_iast (A := bA 11 b) hx hb hK hB.2.2.2.1 ⟨3, by omega, rfl⟩ hS 0 rfl i rfl (by omega) (by decide) dX0_copyFrom_74 (fun H3 locs hH3 hzH3 hkH3 hS => ?_)
              have hB := hB.cpS hn (by omega) hH3 hkH3
              have hO := hO.off1 hkH3 (fun k hk e => hdis 3 k (by omega) hk e.symm)
              have hsz := hzH3.trans hsz
              refine lv_iinc (v := nI (i + 1)) (lv' := [(2, .int (nI (i + 1))), (0, .ref (b 0)), (1, .ref (o 0))]) hx hb dX0_copyFrom_75 hl (k := 2) rfl (nI_1 i) (by decide) rfl (fun ls hl => ?_)
              refine lv_goto (tgt := 58) hx hb dX0_copyFrom_78 (by decide) ?_
              exact ih58 (i + 1) H3 (by omega) hB hO hsz _ hS _ (lv_sub hl [1, 2, 0] rfl)
          exact loop58 4 0 Hg rfl hB hO hsz _ hS _ (lv_sub hl [1, 2, 0] rfl)
        | succ n ih30 =>
          intro i Hg hin hB hO hsz locs hS ls hl
          refine lv_iload_n hx hb dX0_copyFrom_30 rfl (lv_at hl 2 rfl) ?_
          refine lv_iconst (v := 4) hx hb dX0_copyFrom_31 (by decide) ?_
          refine lv_icmp_ge (tgt := 56) hx hb dX0_copyFrom_32 (by decide) (fun c5 => absurd c5 (nI_ge (a := i) (b := 4) (by omega) (by omega))) (fun c5 => ?_)
          refine lv_aload_n hx hb dX0_copyFrom_35 rfl (lv_at hl 0 rfl) ?_
          refine dp_get hx hb hts (dp_hin 29 rfl) hown hK hB.1 rfl 1 (by decide) (hts (.fieldLink RX0 19 "DroopBoard$Board" "feeders" "[LDroopBoard$Feeder;") (List.mem_of_getElem? (i := 2) rfl)) rfl dX0_copyFrom_36 ?_
          refine lv_iload_n hx hb dX0_copyFrom_39 rfl (lv_at hl 2 rfl) ?_
          refine dp_aald hx hb hK hB.2.2.1 2 rfl i rfl (by omega) (by decide) rfl dX0_copyFrom_40 ?_
          refine lv_aload_n hx hb dX0_copyFrom_41 rfl (lv_at hl 1 rfl) ?_
          refine dp_get hx hb hts (dp_hin 29 rfl) hown hK hO.1 rfl 1 (by decide) (hts (.fieldLink RX0 19 "DroopBoard$Board" "feeders" "[LDroopBoard$Feeder;") (List.mem_of_getElem? (i := 2) rfl)) rfl dX0_copyFrom_42 ?_
          refine lv_iload_n hx hb dX0_copyFrom_45 rfl (lv_at hl 2 rfl) ?_
          refine dp_aald hx hb hK hO.2.2.1 2 rfl i rfl (by omega) (by decide) rfl dX0_copyFrom_46 ?_
          refine dp_Vv hF hK hN (c_X2_copyFrom l D G (b (7 + i)) (o (7 + i)) i i (cp2 R R2 i) R2 _ (hB.2.2.2.2.2 i (by omega)) (hO.2.2.2.2.2 i (by omega)) (fun e => hdis (7 + i) (7 + i) (by omega) (by omega) e.symm) (hbz.2 i (by omega))) (cwV 1 hts gX0_copyFrom_X2_copyFrom rfl rfl rfl (by decide +kernel) ⟨Nat.le_of_ble_eq_true rfl, Nat.le_of_ble_eq_true rfl⟩) (dp_recv hK (hB.2.2.2.2.2 i (by omega)) rfl) hS (fun q hq => ⟨7 + i, by omega, hq⟩) [] rfl rfl hl.1 (Nat.le_of_ble_eq_true rfl) dX0_copyFrom_47 ⟨Nat.le_of_ble_eq_true rfl, Nat.le_of_ble_eq_true rfl⟩ (fun H4 locs hp hzH4 hkH4 hS => ?_)
          obtain ⟨hz9, hc9⟩ := hp
          have hB := hB.cpF hn (by omega) hc9 hkH4
          have hO := hO.off hkH4 (fun k hk e => hdis (7 + i) k (by omega) hk e.symm)
          have hsz := hz9.trans hsz
          refine lv_iinc (v := nI (i + 1)) (lv' := [(2, .int (nI (i + 1))), (0, .ref (b 0)), (1, .ref (o 0))]) hx hb dX0_copyFrom_50 hl (k := 2) rfl (nI_1 i) (by decide) rfl (fun ls hl => ?_)
          refine lv_goto (tgt := 30) hx hb dX0_copyFrom_53 (by decide) ?_
          exact ih30 (i + 1) H4 (by omega) hB hO hsz _ hS _ (lv_sub hl [1, 2, 0] rfl)
      exact loop30 4 0 Hh rfl hB hO hsz _ hS _ (lv_sub hl [1, 2, 0] rfl)
    | succ n ih2 =>
      intro i Hh hin hB hO hsz locs hS ls hl
      refine lv_iload_n hx hb dX0_copyFrom_2 rfl (lv_at hl 2 rfl) ?_
      refine lv_iconst (v := 3) hx hb dX0_copyFrom_3 (by decide) ?_
      refine lv_icmp_ge (tgt := 28) hx hb dX0_copyFrom_4 (by decide) (fun c6 => absurd c6 (nI_ge (a := i) (b := 3) (by omega) (by omega))) (fun c6 => ?_)
      refine lv_aload_n hx hb dX0_copyFrom_7 rfl (lv_at hl 0 rfl) ?_
      refine dp_get hx hb hts (dp_hin 29 rfl) hown hK hB.1 rfl 0 (by decide) (hts (.fieldLink RX0 11 "DroopBoard$Board" "diesels" "[LDroopBoard$Diesel;") (List.mem_of_getElem? (i := 1) rfl)) rfl dX0_copyFrom_8 ?_
      refine lv_iload_n hx hb dX0_copyFrom_11 rfl (lv_at hl 2 rfl) ?_
      refine dp_aald hx hb hK hB.2.1 1 rfl i rfl (by omega) (by decide) rfl dX0_copyFrom_12 ?_
      refine lv_aload_n hx hb dX0_copyFrom_13 rfl (lv_at hl 1 rfl) ?_
      refine dp_get hx hb hts (dp_hin 29 rfl) hown hK hO.1 rfl 0 (by decide) (hts (.fieldLink RX0 11 "DroopBoard$Board" "diesels" "[LDroopBoard$Diesel;") (List.mem_of_getElem? (i := 1) rfl)) rfl dX0_copyFrom_14 ?_
      refine lv_iload_n hx hb dX0_copyFrom_17 rfl (lv_at hl 2 rfl) ?_
      refine dp_aald hx hb hK hO.2.1 1 rfl i rfl (by omega) (by decide) rfl dX0_copyFrom_18 ?_
      refine dp_Vv hF hK hN (c_X1_copyFrom l D G (b (4 + i)) (o (4 + i)) i i (cp1 R R2 i) R2 _ (hB.2.2.2.2.1 i (by omega)) (hO.2.2.2.2.1 i (by omega)) (fun e => hdis (4 + i) (4 + i) (by omega) (by omega) e.symm) (hbz.1 i (by omega)).1 (hbz.1 i (by omega)).2) (cwV 1 hts gX0_copyFrom_X1_copyFrom rfl rfl rfl (by decide +kernel) ⟨Nat.le_of_ble_eq_true rfl, Nat.le_of_ble_eq_true rfl⟩) (dp_recv hK (hB.2.2.2.2.1 i (by omega)) rfl) hS (fun q hq => ⟨4 + i, by omega, hq⟩) [] rfl rfl hl.1 (Nat.le_of_ble_eq_true rfl) dX0_copyFrom_19 ⟨Nat.le_of_ble_eq_true rfl, Nat.le_of_ble_eq_true rfl⟩ (fun H5 locs hp hzH5 hkH5 hS => ?_)
      obtain ⟨hz9, hc9⟩ := hp
      have hB := hB.cpD hn (by omega) hc9 hkH5
      have hO := hO.off hkH5 (fun k hk e => hdis (4 + i) k (by omega) hk e.symm)
      have hsz := hz9.trans hsz
      refine lv_iinc (v := nI (i + 1)) (lv' := [(2, .int (nI (i + 1))), (0, .ref (b 0)), (1, .ref (o 0))]) hx hb dX0_copyFrom_22 hl (k := 2) rfl (nI_1 i) (by decide) rfl (fun ls hl => ?_)
      refine lv_goto (tgt := 2) hx hb dX0_copyFrom_25 (by decide) ?_
      exact ih2 (i + 1) H5 (by omega) hB hO hsz _ hS _ (lv_sub hl [1, 2, 0] rfl)
  exact loop2 3 0 s.heap rfl (hB.congr (fun k _ _ _ => by rw [cp1, if_neg (by omega)])) hO hsz _ hS _ (lv_sub hl [1, 2, 0] rfl)

set_option maxHeartbeats 4000000 in
set_option maxRecDepth 100000 in
theorem c_X0_shed (l : Launch) (D : va_G) (G : Nat → ClassId) (b : Nat → Nat) (R : Nat → Int32) (H : Heap) (hB : BD D G b R H) (hn : inj 11 b) : Met l yX0_shed wsX0_shed ({ frames := 0, cells := 0, slots := 0, locals := 0 } : Room) (va_Pc [.ref (b 0)] (CX D G H)) (QV (bA 11 b) (fun h => Array.size h = Array.size H ∧ BD D G b (shd R) h)) 0 0 (bA 11 b) := by
  refine Met.ofW (cc := cX0_shed) (maxL := 2) (ret := none) (by decide) rfl ?_
  intro p e s m args below meth c s₁ B hml hv
  obtain ⟨rfl, rfl, hK, hN⟩ := hv
  have hx := B.exec
  have hb := B.bytes
  have hr := B.returns
  have hts := atoms_spec (ws := wsX0_shed) B.pre
  have hown : s.vm.findClass RX0 = some m.cls := findClass_of_methodNamed B.named
  have hlocks := B.notSynchronized
  have hF : CallFix p m c cX0_shed 2 s ([.ref (b 0)] : List Value).toArray wsX0_shed RX0 := ⟨hx, hb, hml, hown, hts⟩
  have hS : va_S (bA 11 b) s.heap s.heap [] := va_S.rf
  have hl := lv_entry ([.ref (b 0)]) (n := 2) (Nat.le_of_ble_eq_true rfl)
  rw [lg_entry_eq]
  generalize (lg_sl ([.ref (b 0)]) ++ List.replicate (2 - (lg_sl ([.ref (b 0)])).length) Slot.unset).toArray = ls at hl ⊢
  have hl : lv_has ls 2 [(0, .ref (b 0))] := hl
  have hsz : Array.size s.heap = Array.size s.heap := rfl
  refine lv_aload_n hx hb dX0_shed_0 rfl (lv_at hl 0 rfl) ?_
  refine dp_get hx hb hts (dp_hin 5 rfl) hown hK hB.1 rfl 1 (by decide) (hts (.fieldLink RX0 19 "DroopBoard$Board" "feeders" "[LDroopBoard$Feeder;") (List.mem_of_getElem? (i := 1) rfl)) rfl dX0_shed_1 ?_
  refine dp_alen hx hb hK hB.2.2.1 2 rfl dX0_shed_4 ?_
  refine lv_iconst (v := 1) hx hb dX0_shed_5 (by decide) ?_
  refine lv_isub hx hb dX0_shed_6 ?_
  refine lv_istore_n (lv' := [(1, .int ((nI 4) - 1)), (0, .ref (b 0))]) hx hb dX0_shed_7 rfl hl (by decide) rfl (fun ls hl => ?_)
  have loop8 : ∀ (n : Nat) (k : Nat) (v : Int32) (_ : k = n) (_ : v = nI k - 1) (_ : k ≤ 4) (_ : shk R 4 = shk R k) (locs : List Loc) (_ : va_S (bA 11 b) s.heap s.heap locs) (ls : Array Slot) (_ : lv_has ls 2 [(0, .ref (b 0)), (1, .int v)]), W p l e (headSpec wsX0_shed ({ frames := 0, cells := 0, slots := 0, locals := 0 } : Room)).room s m ([.ref (b 0)] : List Value).toArray below meth c s.heap locs 0 0 (MQ below (QV (bA 11 b) (fun h => Array.size h = Array.size s.heap ∧ BD D G b (shd R) h)) ([.ref (b 0)] : List Value).toArray s 0 0 (bA 11 b)) (F0 m 8 ls []) := by
    intro n
    induction n with
    | zero =>
      intro k v hk9 hv hk4 hsh locs hS ls hl
      have hv0 : v < 0 := by rw [hv, hk9]; decide
      refine lv_iload_n hx hb dX0_shed_8 rfl (lv_at hl 1 rfl) ?_
      refine lv_if_lt (tgt := 68) hx hb dX0_shed_9 (by decide) (fun c1 => ?_) (fun c1 => absurd hv0 c1)
      exact W.vret hx hb hr (fun t ht hW => ⟨⟨s.heap, rfl, ⟨rfl, by rw [shd, if_pos (hsh.trans (by rw [hk9]; rfl))]; exact hB⟩, ht⟩, hS.F ht⟩) hS.2.2 dX0_shed_68
    | succ n ih8 =>
      intro k v hk9 hv hk4 hsh locs hS ls hl
      have hvn : v = nI n := by rw [hv, hk9]; exact nI_pred n
      refine lv_iload_n hx hb dX0_shed_8 rfl (lv_at hl 1 rfl) ?_
      refine lv_if_lt (tgt := 68) hx hb dX0_shed_9 (by decide) (fun c2 => absurd c2 (by rw [hvn]; exact nI_pos (by omega))) (fun c2 => ?_)
      refine lv_aload_n hx hb dX0_shed_12 rfl (lv_at hl 0 rfl) ?_
      refine dp_get hx hb hts (dp_hin 5 rfl) hown hK hB.1 rfl 1 (by decide) (hts (.fieldLink RX0 19 "DroopBoard$Board" "feeders" "[LDroopBoard$Feeder;") (List.mem_of_getElem? (i := 1) rfl)) rfl dX0_shed_13 ?_
      refine lv_iload_n hx hb dX0_shed_16 rfl (lv_at hl 1 rfl) ?_
      refine dp_aald hx hb hK hB.2.2.1 2 rfl n hvn (by omega) (by decide) rfl dX0_shed_17 ?_
      refine dp_get hx hb hts (dp_hin 10 rfl) hown hK (hB.2.2.2.2.2 n (by omega)) rfl 1 (by decide) (hts (.fieldLink RX0 53 "DroopBoard$Feeder" "on" "Z") (List.mem_of_getElem? (i := 2) rfl)) rfl dX0_shed_18 ?_
      refine lv_if_eq (tgt := 62) hx hb dX0_shed_21 (by decide) (fun c3 => ?_) (fun c3 => ?_)
      · refine lv_iinc (v := v + (-1)) (lv' := [(1, .int (v + (-1))), (0, .ref (b 0))]) hx hb dX0_shed_62 hl (k := 1) rfl rfl (by decide) rfl (fun ls hl => ?_)
        refine lv_goto (tgt := 8) hx hb dX0_shed_65 (by decide) ?_
        exact ih8 n (v + (-1)) rfl (by rw [hvn, Int32.sub_eq_add_neg]) (by omega) (hsh.trans (by rw [hk9]; simp [shk, c3])) _ hS _ (lv_sub hl [1, 0] rfl)
      refine lv_aload_n hx hb dX0_shed_24 rfl (lv_at hl 0 rfl) ?_
      refine dp_get hx hb hts (dp_hin 5 rfl) hown hK hB.1 rfl 1 (by decide) (hts (.fieldLink RX0 19 "DroopBoard$Board" "feeders" "[LDroopBoard$Feeder;") (List.mem_of_getElem? (i := 1) rfl)) rfl dX0_shed_25 ?_
      refine lv_iload_n hx hb dX0_shed_28 rfl (lv_at hl 1 rfl) ?_
      refine dp_aald hx hb hK hB.2.2.1 2 rfl n hvn (by omega) (by decide) rfl dX0_shed_29 ?_
      refine dp_get hx hb hts (dp_hin 10 rfl) hown hK (hB.2.2.2.2.2 n (by omega)) rfl 0 (by decide) (hts (.fieldLink RX0 56 "DroopBoard$Feeder" "load" "I") (List.mem_of_getElem? (i := 3) rfl)) rfl dX0_shed_30 ?_
      refine lv_if_le (tgt := 62) hx hb dX0_shed_33 (by decide) (fun c4 => ?_) (fun c4 => ?_)
      · refine lv_iinc (v := v + (-1)) (lv' := [(1, .int (v + (-1))), (0, .ref (b 0))]) hx hb dX0_shed_62 hl (k := 1) rfl rfl (by decide) rfl (fun ls hl => ?_)
        refine lv_goto (tgt := 8) hx hb dX0_shed_65 (by decide) ?_
        exact ih8 n (v + (-1)) rfl (by rw [hvn, Int32.sub_eq_add_neg]) (by omega) (hsh.trans (by rw [hk9]; simp [shk, c3, c4])) _ hS _ (lv_sub hl [1, 0] rfl)
      refine lv_aload_n hx hb dX0_shed_36 rfl (lv_at hl 0 rfl) ?_
      refine dp_get hx hb hts (dp_hin 5 rfl) hown hK hB.1 rfl 1 (by decide) (hts (.fieldLink RX0 19 "DroopBoard$Board" "feeders" "[LDroopBoard$Feeder;") (List.mem_of_getElem? (i := 1) rfl)) rfl dX0_shed_37 ?_
      refine lv_iload_n hx hb dX0_shed_40 rfl (lv_at hl 1 rfl) ?_
      refine dp_aald hx hb hK hB.2.2.1 2 rfl n hvn (by omega) (by decide) rfl dX0_shed_41 ?_
      refine lv_iconst (v := 0) hx hb dX0_shed_42 (by decide) ?_
      refine dp_put (A := bA 11 b) (v := .int 0) hx hb hts (dp_hin 10 rfl) tyX2 tyX2_ok nmX2 hown hK (hB.2.2.2.2.2 n (by omega)) ⟨7 + n, by omega, rfl⟩ hS rfl 1 (by decide) (hts (.fieldLink RX0 53 "DroopBoard$Feeder" "on" "Z") (List.mem_of_getElem? (i := 2) rfl)) rfl rfl rfl (Nat.le_of_ble_eq_true rfl) dX0_shed_43 (fun H1 locs hH1 hzH1 hkH1 hS => ?_)
      have hB : BD D G b (upd R (39 + 3 * n) 0) H1 := BD.putF (k := 1) (by omega) hB hn (by omega) hH1 hkH1
      have hsz := hzH1.trans hsz
      refine lv_aload_n hx hb dX0_shed_46 rfl (lv_at hl 0 rfl) ?_
      refine dp_get hx hb hts (dp_hin 5 rfl) hown hK hB.1 rfl 1 (by decide) (hts (.fieldLink RX0 19 "DroopBoard$Board" "feeders" "[LDroopBoard$Feeder;") (List.mem_of_getElem? (i := 1) rfl)) rfl dX0_shed_47 ?_
      refine lv_iload_n hx hb dX0_shed_50 rfl (lv_at hl 1 rfl) ?_
      refine dp_aald hx hb hK hB.2.2.1 2 rfl n hvn (by omega) (by decide) rfl dX0_shed_51 ?_
      refine lv_dup hx hb dX0_shed_52 rfl ?_
      refine dp_get hx hb hts (dp_hin 10 rfl) hown hK (hB.2.2.2.2.2 n (by omega)) rfl 2 (by decide) (hts (.fieldLink RX0 112 "DroopBoard$Feeder" "sheds" "I") (List.mem_of_getElem? (i := 4) rfl)) rfl dX0_shed_53 ?_
      refine lv_iconst (v := 1) hx hb dX0_shed_56 (by decide) ?_
      refine lv_iadd hx hb dX0_shed_57 ?_
      refine dp_put (A := bA 11 b) (v := .int (((upd R (39 + 3 * n) 0) (40 + 3 * n)) + 1)) hx hb hts (dp_hin 10 rfl) tyX2 tyX2_ok nmX2 hown hK (hB.2.2.2.2.2 n (by omega)) ⟨7 + n, by omega, rfl⟩ hS rfl 2 (by decide) (hts (.fieldLink RX0 112 "DroopBoard$Feeder" "sheds" "I") (List.mem_of_getElem? (i := 4) rfl)) rfl rfl rfl (Nat.le_of_ble_eq_true rfl) dX0_shed_58 (fun H2 locs hH2 hzH2 hkH2 hS => ?_)
      have hB : BD D G b (upd (upd R (39 + 3 * n) 0) (40 + 3 * n) (((upd R (39 + 3 * n) 0) (40 + 3 * n)) + 1)) H2 := BD.putF (k := 2) (by omega) hB hn (by omega) hH2 hkH2
      have hsz := hzH2.trans hsz
      exact W.vret hx hb hr (fun t ht hW => ⟨⟨H2, rfl, ⟨hsz, by rw [shd, hsh.trans (show shk R k = n + 1 by rw [hk9]; simp [shk, c3, c4])]; rw [if_neg (by omega)]; exact BD.up6 (by unfold sh1; rw [upd_ne (by omega)] at hB; exact hB)⟩, ht⟩, hS.F ht⟩) hS.2.2 dX0_shed_61
  exact loop8 4 4 (nI 4 - 1) rfl rfl (Nat.le_refl _) rfl _ hS _ (lv_sub hl [1, 0] rfl)

set_option maxHeartbeats 4000000 in
set_option maxRecDepth 100000 in
theorem c_X0_trip (l : Launch) (D : va_G) (G : Nat → ClassId) (b : Nat → Nat) (R : Nat → Int32) (H : Heap) (hB : BD D G b R H) (hn : inj 11 b) : Met l yX0_trip wsX0_trip ({ frames := 2, cells := 0, slots := 0, locals := 40 } : Room) (va_Pc [.ref (b 0)] (CX D G H)) (QI (bA 11 b) (fun r h => Array.size h = Array.size H ∧ BD D G b (trs R 3) h ∧ trm R 3 = r)) 0 0 (bA 11 b) := by
  refine Met.ofW (cc := cX0_trip) (maxL := 4) (ret := (some .int)) (by decide) rfl ?_
  intro p e s m args below meth c s₁ B hml hv
  obtain ⟨rfl, rfl, hK, hN⟩ := hv
  have hx := B.exec
  have hb := B.bytes
  have hr := B.returns
  have hts := atoms_spec (ws := wsX0_trip) B.pre
  have hown : s.vm.findClass RX0 = some m.cls := findClass_of_methodNamed B.named
  have hlocks := B.notSynchronized
  have hF : CallFix p m c cX0_trip 4 s ([.ref (b 0)] : List Value).toArray wsX0_trip RX0 := ⟨hx, hb, hml, hown, hts⟩
  have hS : va_S (bA 11 b) s.heap s.heap [] := va_S.rf
  have hl := lv_entry ([.ref (b 0)]) (n := 4) (Nat.le_of_ble_eq_true rfl)
  rw [lg_entry_eq]
  generalize (lg_sl ([.ref (b 0)]) ++ List.replicate (4 - (lg_sl ([.ref (b 0)])).length) Slot.unset).toArray = ls at hl ⊢
  have hl : lv_has ls 4 [(0, .ref (b 0))] := hl
  have hsz : Array.size s.heap = Array.size s.heap := rfl
  refine lv_iconst (v := 0) hx hb dX0_trip_0 (by decide) ?_
  refine lv_istore_n (lv' := [(1, .int 0), (0, .ref (b 0))]) hx hb dX0_trip_1 rfl hl (by decide) rfl (fun ls hl => ?_)
  refine lv_iconst (v := 0) hx hb dX0_trip_2 (by decide) ?_
  refine lv_istore_n (lv' := [(2, .int 0), (1, .int 0), (0, .ref (b 0))]) hx hb dX0_trip_3 rfl hl (by decide) rfl (fun ls hl => ?_)
  have loop4 : ∀ (n : Nat) (i : Nat) (acc : Int32) (Hh : Heap) (_ : i + n = 3) (_ : acc = trm R i) (_ : BD D G b (trs R i) Hh) (_ : Array.size Hh = Array.size s.heap) (locs : List Loc) (_ : va_S (bA 11 b) s.heap Hh locs) (ls : Array Slot) (_ : lv_has ls 4 [(0, .ref (b 0)), (1, .int acc), (2, .int (nI i))]), W p l e (headSpec wsX0_trip ({ frames := 2, cells := 0, slots := 0, locals := 40 } : Room)).room s m ([.ref (b 0)] : List Value).toArray below meth c Hh locs 0 0 (MQ below (QI (bA 11 b) (fun r h => Array.size h = Array.size s.heap ∧ BD D G b (trs R 3) h ∧ trm R 3 = r)) ([.ref (b 0)] : List Value).toArray s 0 0 (bA 11 b)) (F0 m 4 ls []) := by
    intro n
    induction n with
    | zero =>
      intro i acc Hh hin hacc hB hsz locs hS ls hl
      have hi9 : i = 3 := by omega
      rw [hi9] at hB hacc
      refine lv_iload_n hx hb dX0_trip_4 rfl (lv_at hl 2 rfl) ?_
      refine lv_aload_n hx hb dX0_trip_5 rfl (lv_at hl 0 rfl) ?_
      refine dp_get hx hb hts (dp_hin 19 rfl) hown hK hB.1 rfl 0 (by decide) (hts (.fieldLink RX0 11 "DroopBoard$Board" "diesels" "[LDroopBoard$Diesel;") (List.mem_of_getElem? (i := 1) rfl)) rfl dX0_trip_6 ?_
      refine dp_alen hx hb hK hB.2.1 1 rfl dX0_trip_9 ?_
      refine lv_icmp_ge (tgt := 69) hx hb dX0_trip_10 (by decide) (fun c1 => ?_) (fun c1 => absurd (nI_le (a := 3) (b := i) (by omega) (by omega)) c1)
      refine lv_iload_n hx hb dX0_trip_69 rfl (lv_at hl 1 rfl) ?_
      exact W.iret hx hb hr (fun t ht hW => ⟨⟨acc, Hh, rfl, ⟨hsz, hB, hacc.symm⟩, ht⟩, hS.F ht⟩) hS.2.2 dX0_trip_70
    | succ n ih4 =>
      intro i acc Hh hin hacc hB hsz locs hS ls hl
      refine lv_iload_n hx hb dX0_trip_4 rfl (lv_at hl 2 rfl) ?_
      refine lv_aload_n hx hb dX0_trip_5 rfl (lv_at hl 0 rfl) ?_
      refine dp_get hx hb hts (dp_hin 19 rfl) hown hK hB.1 rfl 0 (by decide) (hts (.fieldLink RX0 11 "DroopBoard$Board" "diesels" "[LDroopBoard$Diesel;") (List.mem_of_getElem? (i := 1) rfl)) rfl dX0_trip_6 ?_
      refine dp_alen hx hb hK hB.2.1 1 rfl dX0_trip_9 ?_
      refine lv_icmp_ge (tgt := 69) hx hb dX0_trip_10 (by decide) (fun c2 => absurd c2 (nI_ge (a := i) (b := 3) (by omega) (by omega))) (fun c2 => ?_)
      refine lv_aload_n hx hb dX0_trip_13 rfl (lv_at hl 0 rfl) ?_
      refine dp_get hx hb hts (dp_hin 19 rfl) hown hK hB.1 rfl 0 (by decide) (hts (.fieldLink RX0 11 "DroopBoard$Board" "diesels" "[LDroopBoard$Diesel;") (List.mem_of_getElem? (i := 1) rfl)) rfl dX0_trip_14 ?_
      refine lv_iload_n hx hb dX0_trip_17 rfl (lv_at hl 2 rfl) ?_
      refine dp_aald hx hb hK hB.2.1 1 rfl i rfl (by omega) (by decide) rfl dX0_trip_18 ?_
      refine lv_astore_n (lv' := [(3, .ref (b (4 + i))), (0, .ref (b 0)), (1, .int acc), (2, .int (nI i))]) hx hb dX0_trip_19 rfl hl (by decide) rfl (fun ls hl => ?_)
      refine lv_aload_n hx hb dX0_trip_20 rfl (lv_at hl 0 rfl) ?_
      refine dp_get hx hb hts (dp_hin 24 rfl) hown hK (hB.2.2.2.2.1 i (by omega)) rfl 6 (by decide) (hts (.fieldLink RX0 115 "DroopBoard$Diesel" "overloaded" "I") (List.mem_of_getElem? (i := 2) rfl)) rfl dX0_trip_21 ?_
      refine lv_aload_n hx hb dX0_trip_24 rfl (lv_at hl 1 rfl) ?_
      refine dp_get hx hb hts (dp_hin 19 rfl) hown hK hB.1 rfl 2 (by decide) (hts (.fieldLink RX0 23 "DroopBoard$Board" "settings" "[I") (List.mem_of_getElem? (i := 3) rfl)) rfl dX0_trip_25 ?_
      refine lv_iconst (v := 0) hx hb dX0_trip_28 (by decide) ?_
      refine dp_iald hx hb hK hB.2.2.2.1 0 rfl 0 rfl (by decide) (by decide) dX0_trip_29 ?_
      refine lv_icmp_ge (tgt := 46) hx hb dX0_trip_30 (by decide) (fun c3 => ?_) (fun c3 => ?_)
      · refine lv_aload_n hx hb dX0_trip_46 rfl (lv_at hl 0 rfl) ?_
        refine dp_Vv hF hK hN (c_X1_openBreaker l D G (b (4 + i)) i (trs R i) _ (hB.2.2.2.2.1 i (by omega))) (cwV 0 hts gX0_trip_X1_openBreaker rfl rfl rfl (by decide +kernel) ⟨Nat.le_of_ble_eq_true rfl, Nat.le_of_ble_eq_true rfl⟩) (dp_recv hK (hB.2.2.2.2.1 i (by omega)) rfl) hS (fun q hq => ⟨4 + i, by omega, hq⟩) [] rfl rfl hl.1 (Nat.le_of_ble_eq_true rfl) dX0_trip_47 ⟨Nat.le_of_ble_eq_true rfl, Nat.le_of_ble_eq_true rfl⟩ (fun H1 locs hp hzH1 hkH1 hS => ?_)
        obtain ⟨hz9, hc9⟩ := hp
        have hB := hB.rstD (k := 12) (Or.inr rfl) hn (by omega) hc9 hkH1
        have hsz := hz9.trans hsz
        refine lv_aload_n hx hb dX0_trip_50 rfl (lv_at hl 0 rfl) ?_
        refine lv_dup hx hb dX0_trip_51 rfl ?_
        refine dp_get hx hb hts (dp_hin 24 rfl) hown hK (hB.2.2.2.2.1 i (by omega)) rfl 9 (by decide) (hts (.fieldLink RX0 124 "DroopBoard$Diesel" "trips" "I") (List.mem_of_getElem? (i := 5) rfl)) rfl dX0_trip_52 ?_
        rw [rst17]
        refine lv_iconst (v := 1) hx hb dX0_trip_55 (by decide) ?_
        refine lv_iadd hx hb dX0_trip_56 ?_
        refine dp_put (A := bA 11 b) (v := .int (((trs R i) (17 + 10 * i)) + 1)) hx hb hts (dp_hin 24 rfl) tyX1 tyX1_ok nmX1 hown hK (hB.2.2.2.2.1 i (by omega)) ⟨4 + i, by omega, rfl⟩ hS rfl 9 (by decide) (hts (.fieldLink RX0 124 "DroopBoard$Diesel" "trips" "I") (List.mem_of_getElem? (i := 5) rfl)) rfl rfl rfl (Nat.le_of_ble_eq_true rfl) dX0_trip_57 (fun H2 locs hH2 hzH2 hkH2 hS => ?_)
        have hB : BD D G b (upd (rst (upd (trs R i) (12 + 10 * i) 0) i) (17 + 10 * i) (((trs R i) (17 + 10 * i)) + 1)) H2 := BD.putD (k := 9) (by omega) hB hn (by omega) hH2 hkH2
        have hsz := hzH2.trans hsz
        refine lv_iinc (v := acc + 1) (lv' := [(1, .int (acc + 1)), (3, .ref (b (4 + i))), (0, .ref (b 0)), (2, .int (nI i))]) hx hb dX0_trip_60 hl (k := 2) rfl rfl (by decide) rfl (fun ls hl => ?_)
        refine lv_iinc (v := nI (i + 1)) (lv' := [(2, .int (nI (i + 1))), (1, .int (acc + 1)), (3, .ref (b (4 + i))), (0, .ref (b 0))]) hx hb dX0_trip_63 hl (k := 3) rfl (nI_1 i) (by decide) rfl (fun ls hl => ?_)
        refine lv_goto (tgt := 4) hx hb dX0_trip_66 (by decide) ?_
        exact ih4 (i + 1) (acc + 1) H2 (by omega) (by rw [trm, trc, if_pos c3, hacc] <;> simp) (show BD D G b (trs R (i + 1)) _ by rw [trs, tr1, if_pos c3]; exact hB) hsz _ hS _ (lv_sub hl [3, 1, 0] rfl)
      refine lv_aload_n hx hb dX0_trip_33 rfl (lv_at hl 0 rfl) ?_
      refine dp_get hx hb hts (dp_hin 24 rfl) hown hK (hB.2.2.2.2.1 i (by omega)) rfl 7 (by decide) (hts (.fieldLink RX0 118 "DroopBoard$Diesel" "driven" "I") (List.mem_of_getElem? (i := 4) rfl)) rfl dX0_trip_34 ?_
      refine lv_aload_n hx hb dX0_trip_37 rfl (lv_at hl 1 rfl) ?_
      refine dp_get hx hb hts (dp_hin 19 rfl) hown hK hB.1 rfl 2 (by decide) (hts (.fieldLink RX0 23 "DroopBoard$Board" "settings" "[I") (List.mem_of_getElem? (i := 3) rfl)) rfl dX0_trip_38 ?_
      refine lv_iconst (v := 1) hx hb dX0_trip_41 (by decide) ?_
      refine dp_iald hx hb hK hB.2.2.2.1 0 rfl 1 rfl (by decide) (by decide) dX0_trip_42 ?_
      refine lv_icmp_lt (tgt := 63) hx hb dX0_trip_43 (by decide) (fun c4 => ?_) (fun c4 => ?_)
      · refine lv_iinc (v := nI (i + 1)) (lv' := [(2, .int (nI (i + 1))), (3, .ref (b (4 + i))), (0, .ref (b 0)), (1, .int acc)]) hx hb dX0_trip_63 hl (k := 3) rfl (nI_1 i) (by decide) rfl (fun ls hl => ?_)
        refine lv_goto (tgt := 4) hx hb dX0_trip_66 (by decide) ?_
        exact ih4 (i + 1) acc Hh (by omega) (by rw [trm, trc, if_neg c3, if_pos c4, hacc] <;> simp) (show BD D G b (trs R (i + 1)) _ by rw [trs, tr1, if_neg c3, if_pos c4]; exact hB) hsz _ hS _ (lv_sub hl [2, 3, 0] rfl)
      refine lv_aload_n hx hb dX0_trip_46 rfl (lv_at hl 0 rfl) ?_
      refine dp_Vv hF hK hN (c_X1_openBreaker l D G (b (4 + i)) i (trs R i) _ (hB.2.2.2.2.1 i (by omega))) (cwV 0 hts gX0_trip_X1_openBreaker rfl rfl rfl (by decide +kernel) ⟨Nat.le_of_ble_eq_true rfl, Nat.le_of_ble_eq_true rfl⟩) (dp_recv hK (hB.2.2.2.2.1 i (by omega)) rfl) hS (fun q hq => ⟨4 + i, by omega, hq⟩) [] rfl rfl hl.1 (Nat.le_of_ble_eq_true rfl) dX0_trip_47 ⟨Nat.le_of_ble_eq_true rfl, Nat.le_of_ble_eq_true rfl⟩ (fun H3 locs hp hzH3 hkH3 hS => ?_)
      obtain ⟨hz9, hc9⟩ := hp
      have hB := hB.rstD (k := 12) (Or.inr rfl) hn (by omega) hc9 hkH3
      have hsz := hz9.trans hsz
      refine lv_aload_n hx hb dX0_trip_50 rfl (lv_at hl 0 rfl) ?_
      refine lv_dup hx hb dX0_trip_51 rfl ?_
      refine dp_get hx hb hts (dp_hin 24 rfl) hown hK (hB.2.2.2.2.1 i (by omega)) rfl 9 (by decide) (hts (.fieldLink RX0 124 "DroopBoard$Diesel" "trips" "I") (List.mem_of_getElem? (i := 5) rfl)) rfl dX0_trip_52 ?_
      rw [rst17]
      refine lv_iconst (v := 1) hx hb dX0_trip_55 (by decide) ?_
      refine lv_iadd hx hb dX0_trip_56 ?_
      refine dp_put (A := bA 11 b) (v := .int (((trs R i) (17 + 10 * i)) + 1)) hx hb hts (dp_hin 24 rfl) tyX1 tyX1_ok nmX1 hown hK (hB.2.2.2.2.1 i (by omega)) ⟨4 + i, by omega, rfl⟩ hS rfl 9 (by decide) (hts (.fieldLink RX0 124 "DroopBoard$Diesel" "trips" "I") (List.mem_of_getElem? (i := 5) rfl)) rfl rfl rfl (Nat.le_of_ble_eq_true rfl) dX0_trip_57 (fun H4 locs hH4 hzH4 hkH4 hS => ?_)
      have hB : BD D G b (upd (rst (upd (trs R i) (12 + 10 * i) 0) i) (17 + 10 * i) (((trs R i) (17 + 10 * i)) + 1)) H4 := BD.putD (k := 9) (by omega) hB hn (by omega) hH4 hkH4
      have hsz := hzH4.trans hsz
      refine lv_iinc (v := acc + 1) (lv' := [(1, .int (acc + 1)), (3, .ref (b (4 + i))), (0, .ref (b 0)), (2, .int (nI i))]) hx hb dX0_trip_60 hl (k := 2) rfl rfl (by decide) rfl (fun ls hl => ?_)
      refine lv_iinc (v := nI (i + 1)) (lv' := [(2, .int (nI (i + 1))), (1, .int (acc + 1)), (3, .ref (b (4 + i))), (0, .ref (b 0))]) hx hb dX0_trip_63 hl (k := 3) rfl (nI_1 i) (by decide) rfl (fun ls hl => ?_)
      refine lv_goto (tgt := 4) hx hb dX0_trip_66 (by decide) ?_
      exact ih4 (i + 1) (acc + 1) H4 (by omega) (by rw [trm, trc, if_neg c3, if_neg c4, hacc] <;> simp) (show BD D G b (trs R (i + 1)) _ by rw [trs, tr1, if_neg c3, if_neg c4]; exact hB) hsz _ hS _ (lv_sub hl [3, 1, 0] rfl)
  exact loop4 3 0 0 s.heap rfl rfl hB hsz _ hS _ (lv_sub hl [2, 1, 0] rfl)

set_option maxHeartbeats 4000000 in
set_option maxRecDepth 100000 in
theorem c_X0_tick (l : Launch) (D : va_G) (G : Nat → ClassId) (b : Nat → Nat) (R : Nat → Int32) (H : Heap) (hB : BD D G b R H) (hn : inj 11 b) (hm : mono R) : Met l yX0_tick wsX0_tick ({ frames := 3, cells := 0, slots := 0, locals := 69 } : Room) (va_Pc [.ref (b 0)] (CX D G H)) (QI (bA 11 b) (fun r h => Array.size h = Array.size H ∧ BD D G b (tk R) h ∧ tkn R = r)) 0 0 (bA 11 b) := by
  refine Met.ofW (cc := cX0_tick) (maxL := 4) (ret := (some .int)) (by decide) rfl ?_
  intro p e s m args below meth c s₁ B hml hv
  obtain ⟨rfl, rfl, hK, hN⟩ := hv
  have hx := B.exec
  have hb := B.bytes
  have hr := B.returns
  have hts := atoms_spec (ws := wsX0_tick) B.pre
  have hown : s.vm.findClass RX0 = some m.cls := findClass_of_methodNamed B.named
  have hlocks := B.notSynchronized
  have hF : CallFix p m c cX0_tick 4 s ([.ref (b 0)] : List Value).toArray wsX0_tick RX0 := ⟨hx, hb, hml, hown, hts⟩
  have hS : va_S (bA 11 b) s.heap s.heap [] := va_S.rf
  have hl := lv_entry ([.ref (b 0)]) (n := 4) (Nat.le_of_ble_eq_true rfl)
  rw [lg_entry_eq]
  generalize (lg_sl ([.ref (b 0)]) ++ List.replicate (4 - (lg_sl ([.ref (b 0)])).length) Slot.unset).toArray = ls at hl ⊢
  have hl : lv_has ls 4 [(0, .ref (b 0))] := hl
  have hsz : Array.size s.heap = Array.size s.heap := rfl
  refine lv_aload_n hx hb dX0_tick_0 rfl (lv_at hl 0 rfl) ?_
  refine dp_Vi hF hK hN (c_X0_frequency l D G b R _ hB hm) (cwV 0 hts gX0_tick_X0_frequency rfl rfl rfl (by decide +kernel) ⟨Nat.le_of_ble_eq_true rfl, Nat.le_of_ble_eq_true rfl⟩) (dp_recv hK hB.1 rfl) hS nA_i [] rfl rfl hl.1 (Nat.le_of_ble_eq_true rfl) dX0_tick_1 ⟨Nat.le_of_ble_eq_true rfl, Nat.le_of_ble_eq_true rfl⟩ (fun rH1 H1 locs hp hzH1 hkH1 hS => ?_)
  obtain ⟨rfl, rfl⟩ := hp
  refine lv_istore_n (lv' := [(1, .int (fq R)), (0, .ref (b 0))]) hx hb dX0_tick_4 rfl hl (by decide) rfl (fun ls hl => ?_)
  refine lv_aload_n hx hb dX0_tick_5 rfl (lv_at hl 1 rfl) ?_
  refine lv_iload_n hx hb dX0_tick_6 rfl (lv_at hl 0 rfl) ?_
  refine dp_Vi hF hK hN (c_X0_lack l D G b R (fq R) _ hB) (cwV 1 hts gX0_tick_X0_lack rfl rfl rfl (by decide +kernel) ⟨Nat.le_of_ble_eq_true rfl, Nat.le_of_ble_eq_true rfl⟩) (dp_recv hK hB.1 rfl) hS nA_i [] rfl rfl hl.1 (Nat.le_of_ble_eq_true rfl) dX0_tick_7 ⟨Nat.le_of_ble_eq_true rfl, Nat.le_of_ble_eq_true rfl⟩ (fun rH2 H2 locs hp hzH2 hkH2 hS => ?_)
  obtain ⟨rfl, rfl⟩ := hp
  refine lv_istore_n (lv' := [(2, .int (lk R (fq R))), (1, .int (fq R)), (0, .ref (b 0))]) hx hb dX0_tick_10 rfl hl (by decide) rfl (fun ls hl => ?_)
  refine lv_aload_n hx hb dX0_tick_11 rfl (lv_at hl 2 rfl) ?_
  refine lv_dup hx hb dX0_tick_12 rfl ?_
  refine dp_get hx hb hts (dp_hin 84 rfl) hown hK hB.1 rfl 4 (by decide) (hts (.fieldLink RX0 42 "DroopBoard$Board" "energy" "I") (List.mem_of_getElem? (i := 1) rfl)) rfl dX0_tick_13 ?_
  refine lv_aload_n hx hb dX0_tick_16 rfl (lv_at hl 2 rfl) ?_
  refine dp_Vi hF hK hN (c_X0_demand l D G b R _ hB) (cwV 0 hts gX0_tick_X0_demand rfl rfl rfl (by decide +kernel) ⟨Nat.le_of_ble_eq_true rfl, Nat.le_of_ble_eq_true rfl⟩) (dp_recv hK hB.1 rfl) hS nA_i [.int (R 7), .ref (b 0)] rfl rfl hl.1 (Nat.le_of_ble_eq_true rfl) dX0_tick_17 ⟨Nat.le_of_ble_eq_true rfl, Nat.le_of_ble_eq_true rfl⟩ (fun rH3 H3 locs hp hzH3 hkH3 hS => ?_)
  obtain ⟨rfl, rfl⟩ := hp
  refine lv_iload_n hx hb dX0_tick_20 rfl (lv_at hl 0 rfl) ?_
  refine lv_isub hx hb dX0_tick_21 ?_
  refine lv_iadd hx hb dX0_tick_22 ?_
  refine dp_put (A := bA 11 b) (v := .int ((R 7) + ((ld R) - (lk R (fq R))))) hx hb hts (dp_hin 84 rfl) tyX0 tyX0_ok nmX0 hown hK hB.1 ⟨0, by omega, rfl⟩ hS rfl 4 (by decide) (hts (.fieldLink RX0 42 "DroopBoard$Board" "energy" "I") (List.mem_of_getElem? (i := 1) rfl)) rfl rfl rfl (Nat.le_of_ble_eq_true rfl) dX0_tick_23 (fun H4 locs hH4 hzH4 hkH4 hS => ?_)
  have hB : BD D G b (upd R 7 ((R 7) + ((ld R) - (lk R (fq R))))) H4 := BD.putE hB hn hH4 hkH4
  have hsz := hzH4.trans hsz
  refine lv_iconst (v := 0) hx hb dX0_tick_26 (by decide) ?_
  refine lv_istore_n (lv' := [(3, .int 0), (2, .int (lk R (fq R))), (1, .int (fq R)), (0, .ref (b 0))]) hx hb dX0_tick_27 rfl hl (by decide) rfl (fun ls hl => ?_)
  have loop28 : ∀ (n : Nat) (i : Nat) (Hh : Heap) (_ : i + n = 3) (_ : BD D G b (tbs R i) Hh) (_ : Array.size Hh = Array.size s.heap) (locs : List Loc) (_ : va_S (bA 11 b) s.heap Hh locs) (ls : Array Slot) (_ : lv_has ls 4 [(0, .ref (b 0)), (1, .int (fq R)), (2, .int (lk R (fq R))), (3, .int (nI i))]), W p l e (headSpec wsX0_tick ({ frames := 3, cells := 0, slots := 0, locals := 69 } : Room)).room s m ([.ref (b 0)] : List Value).toArray below meth c Hh locs 0 0 (MQ below (QI (bA 11 b) (fun r h => Array.size h = Array.size s.heap ∧ BD D G b (tk R) h ∧ tkn R = r)) ([.ref (b 0)] : List Value).toArray s 0 0 (bA 11 b)) (F0 m 28 ls []) := by
    intro n
    induction n with
    | zero =>
      intro i Hh hin hB hsz locs hS ls hl
      have hi9 : i = 3 := by omega
      rw [hi9] at hB
      refine lv_iload_n hx hb dX0_tick_28 rfl (lv_at hl 3 rfl) ?_
      refine lv_aload_n hx hb dX0_tick_29 rfl (lv_at hl 0 rfl) ?_
      refine dp_get hx hb hts (dp_hin 84 rfl) hown hK hB.1 rfl 0 (by decide) (hts (.fieldLink RX0 11 "DroopBoard$Board" "diesels" "[LDroopBoard$Diesel;") (List.mem_of_getElem? (i := 2) rfl)) rfl dX0_tick_30 ?_
      refine dp_alen hx hb hK hB.2.1 1 rfl dX0_tick_33 ?_
      refine lv_icmp_ge (tgt := 59) hx hb dX0_tick_34 (by decide) (fun c1 => ?_) (fun c1 => absurd (nI_le (a := 3) (b := i) (by omega) (by omega)) c1)
      refine lv_iload_n hx hb dX0_tick_59 rfl (lv_at hl 2 rfl) ?_
      refine lv_if_le (tgt := 67) hx hb dX0_tick_60 (by decide) (fun c2 => ?_) (fun c2 => ?_)
      · have hB : BD D G b (tC R) Hh := by rw [tC, if_pos c2]; exact hB
        refine lv_aload_n hx hb dX0_tick_67 rfl (lv_at hl 0 rfl) ?_
        refine lv_dup hx hb dX0_tick_68 rfl ?_
        refine dp_get hx hb hts (dp_hin 84 rfl) hown hK hB.1 rfl 3 (by decide) (hts (.fieldLink RX0 38 "DroopBoard$Board" "ticks" "I") (List.mem_of_getElem? (i := 3) rfl)) rfl dX0_tick_69 ?_
        refine lv_iconst (v := 1) hx hb dX0_tick_72 (by decide) ?_
        refine lv_iadd hx hb dX0_tick_73 ?_
        refine dp_put (A := bA 11 b) (v := .int (((tC R) 4) + 1)) hx hb hts (dp_hin 84 rfl) tyX0 tyX0_ok nmX0 hown hK hB.1 ⟨0, by omega, rfl⟩ hS rfl 3 (by decide) (hts (.fieldLink RX0 38 "DroopBoard$Board" "ticks" "I") (List.mem_of_getElem? (i := 3) rfl)) rfl rfl rfl (Nat.le_of_ble_eq_true rfl) dX0_tick_74 (fun H5 locs hH5 hzH5 hkH5 hS => ?_)
        have hB : BD D G b (upd (tC R) 4 (((tC R) 4) + 1)) H5 := BD.putT hB hn hH5 hkH5
        have hsz := hzH5.trans hsz
        have hB : BD D G b (tD R) H5 := hB
        refine lv_aload_n hx hb dX0_tick_77 rfl (lv_at hl 0 rfl) ?_
        refine dp_Vi hF hK hN (c_X0_trip l D G b (tD R) _ hB hn) (cwV 0 hts gX0_tick_X0_trip rfl rfl rfl (by decide +kernel) ⟨Nat.le_of_ble_eq_true rfl, Nat.le_of_ble_eq_true rfl⟩) (dp_recv hK hB.1 rfl) hS (fun q hq => hq) [] rfl rfl hl.1 (Nat.le_of_ble_eq_true rfl) dX0_tick_78 ⟨Nat.le_of_ble_eq_true rfl, Nat.le_of_ble_eq_true rfl⟩ (fun rH6 H6 locs hp hzH6 hkH6 hS => ?_)
        obtain ⟨hz9, hB, hr9⟩ := hp
        have hsz := hz9.trans hsz
        exact W.iret hx hb hr (fun t ht hW => ⟨⟨rH6, H6, rfl, ⟨hsz, hB.up5, hr9⟩, ht⟩, hS.F ht⟩) hS.2.2 dX0_tick_81
      refine lv_aload_n hx hb dX0_tick_63 rfl (lv_at hl 0 rfl) ?_
      refine dp_Vv hF hK hN (c_X0_shed l D G b (tbs R 3) _ hB hn) (cwV 0 hts gX0_tick_X0_shed rfl rfl rfl (by decide +kernel) ⟨Nat.le_of_ble_eq_true rfl, Nat.le_of_ble_eq_true rfl⟩) (dp_recv hK hB.1 rfl) hS (fun q hq => hq) [] rfl rfl hl.1 (Nat.le_of_ble_eq_true rfl) dX0_tick_64 ⟨Nat.le_of_ble_eq_true rfl, Nat.le_of_ble_eq_true rfl⟩ (fun H7 locs hp hzH7 hkH7 hS => ?_)
      obtain ⟨hz9, hB⟩ := hp
      have hsz := hz9.trans hsz
      have hB : BD D G b (tC R) H7 := by rw [tC, if_neg c2]; exact hB
      refine lv_aload_n hx hb dX0_tick_67 rfl (lv_at hl 0 rfl) ?_
      refine lv_dup hx hb dX0_tick_68 rfl ?_
      refine dp_get hx hb hts (dp_hin 84 rfl) hown hK hB.1 rfl 3 (by decide) (hts (.fieldLink RX0 38 "DroopBoard$Board" "ticks" "I") (List.mem_of_getElem? (i := 3) rfl)) rfl dX0_tick_69 ?_
      refine lv_iconst (v := 1) hx hb dX0_tick_72 (by decide) ?_
      refine lv_iadd hx hb dX0_tick_73 ?_
      refine dp_put (A := bA 11 b) (v := .int (((tC R) 4) + 1)) hx hb hts (dp_hin 84 rfl) tyX0 tyX0_ok nmX0 hown hK hB.1 ⟨0, by omega, rfl⟩ hS rfl 3 (by decide) (hts (.fieldLink RX0 38 "DroopBoard$Board" "ticks" "I") (List.mem_of_getElem? (i := 3) rfl)) rfl rfl rfl (Nat.le_of_ble_eq_true rfl) dX0_tick_74 (fun H8 locs hH8 hzH8 hkH8 hS => ?_)
      have hB : BD D G b (upd (tC R) 4 (((tC R) 4) + 1)) H8 := BD.putT hB hn hH8 hkH8
      have hsz := hzH8.trans hsz
      have hB : BD D G b (tD R) H8 := hB
      refine lv_aload_n hx hb dX0_tick_77 rfl (lv_at hl 0 rfl) ?_
      refine dp_Vi hF hK hN (c_X0_trip l D G b (tD R) _ hB hn) (cwV 0 hts gX0_tick_X0_trip rfl rfl rfl (by decide +kernel) ⟨Nat.le_of_ble_eq_true rfl, Nat.le_of_ble_eq_true rfl⟩) (dp_recv hK hB.1 rfl) hS (fun q hq => hq) [] rfl rfl hl.1 (Nat.le_of_ble_eq_true rfl) dX0_tick_78 ⟨Nat.le_of_ble_eq_true rfl, Nat.le_of_ble_eq_true rfl⟩ (fun rH9 H9 locs hp hzH9 hkH9 hS => ?_)
      obtain ⟨hz9, hB, hr9⟩ := hp
      have hsz := hz9.trans hsz
      exact W.iret hx hb hr (fun t ht hW => ⟨⟨rH9, H9, rfl, ⟨hsz, hB.up5, hr9⟩, ht⟩, hS.F ht⟩) hS.2.2 dX0_tick_81
    | succ n ih28 =>
      intro i Hh hin hB hsz locs hS ls hl
      refine lv_iload_n hx hb dX0_tick_28 rfl (lv_at hl 3 rfl) ?_
      refine lv_aload_n hx hb dX0_tick_29 rfl (lv_at hl 0 rfl) ?_
      refine dp_get hx hb hts (dp_hin 84 rfl) hown hK hB.1 rfl 0 (by decide) (hts (.fieldLink RX0 11 "DroopBoard$Board" "diesels" "[LDroopBoard$Diesel;") (List.mem_of_getElem? (i := 2) rfl)) rfl dX0_tick_30 ?_
      refine dp_alen hx hb hK hB.2.1 1 rfl dX0_tick_33 ?_
      refine lv_icmp_ge (tgt := 59) hx hb dX0_tick_34 (by decide) (fun c3 => absurd c3 (nI_ge (a := i) (b := 3) (by omega) (by omega))) (fun c3 => ?_)
      refine lv_aload_n hx hb dX0_tick_37 rfl (lv_at hl 0 rfl) ?_
      refine dp_get hx hb hts (dp_hin 84 rfl) hown hK hB.1 rfl 0 (by decide) (hts (.fieldLink RX0 11 "DroopBoard$Board" "diesels" "[LDroopBoard$Diesel;") (List.mem_of_getElem? (i := 2) rfl)) rfl dX0_tick_38 ?_
      refine lv_iload_n hx hb dX0_tick_41 rfl (lv_at hl 3 rfl) ?_
      refine dp_aald hx hb hK hB.2.1 1 rfl i rfl (by omega) (by decide) rfl dX0_tick_42 ?_
      refine lv_aload_n hx hb dX0_tick_43 rfl (lv_at hl 0 rfl) ?_
      refine lv_iload_n hx hb dX0_tick_44 rfl (lv_at hl 3 rfl) ?_
      refine lv_iload_n hx hb dX0_tick_45 rfl (lv_at hl 1 rfl) ?_
      refine dp_Vi hF hK hN (c_X0_power l D G b (tbs R i) i (fq R) _ hB (by omega)) (cwV 2 hts gX0_tick_X0_power rfl rfl rfl (by decide +kernel) ⟨Nat.le_of_ble_eq_true rfl, Nat.le_of_ble_eq_true rfl⟩) (dp_recv hK hB.1 rfl) hS nA_i [.ref (b (4 + i))] rfl rfl hl.1 (Nat.le_of_ble_eq_true rfl) dX0_tick_46 ⟨Nat.le_of_ble_eq_true rfl, Nat.le_of_ble_eq_true rfl⟩ (fun rH10 H10 locs hp hzH10 hkH10 hS => ?_)
      obtain ⟨rfl, rfl⟩ := hp
      rw [pw_tbs (n := i) (i := i) (by omega) (by omega)]
      refine lv_iload_n hx hb dX0_tick_49 rfl (lv_at hl 1 rfl) ?_
      refine dp_Vv hF hK hN (c_X1_tick l D G (b (4 + i)) i (tbs R i) (pw R i (fq R)) (fq R) _ (hB.2.2.2.2.1 i (by omega))) (cwV 2 hts gX0_tick_X1_tick rfl rfl rfl (by decide +kernel) ⟨Nat.le_of_ble_eq_true rfl, Nat.le_of_ble_eq_true rfl⟩) (dp_recv hK (hB.2.2.2.2.1 i (by omega)) rfl) hS (fun q hq => ⟨4 + i, by omega, hq⟩) [] rfl rfl hl.1 (Nat.le_of_ble_eq_true rfl) dX0_tick_50 ⟨Nat.le_of_ble_eq_true rfl, Nat.le_of_ble_eq_true rfl⟩ (fun H11 locs hp hzH11 hkH11 hS => ?_)
      obtain ⟨hz9, hc9⟩ := hp
      have hB : BD D G b (tbs R (i + 1)) H11 := hB.dtkD hn (by omega) hc9 hkH11
      have hsz := hz9.trans hsz
      refine lv_iinc (v := nI (i + 1)) (lv' := [(3, .int (nI (i + 1))), (0, .ref (b 0)), (1, .int (fq R)), (2, .int (lk R (fq R)))]) hx hb dX0_tick_53 hl (k := 3) rfl (nI_1 i) (by decide) rfl (fun ls hl => ?_)
      refine lv_goto (tgt := 28) hx hb dX0_tick_56 (by decide) ?_
      exact ih28 (i + 1) H11 (by omega) hB hsz _ hS _ (lv_sub hl [1, 2, 3, 0] rfl)
  exact loop28 3 0 H4 rfl hB hsz _ hS _ (lv_sub hl [3, 2, 1, 0] rfl)

set_option maxHeartbeats 4000000 in
set_option maxRecDepth 100000 in
theorem c_X0_passTicks (l : Launch) (D : va_G) (G : Nat → ClassId) (b : Nat → Nat) (R : Nat → Int32) (t : Nat) (H : Heap) (hB : BD D G b R H) (hn : inj 11 b) (ht : t < 2 ^ 31) (hm : ∀ k, k < t → mono (pt R k)) : Met l yX0_passTicks wsX0_passTicks ({ frames := 4, cells := 0, slots := 0, locals := 92 } : Room) (va_Pc [.ref (b 0), .int (nI t)] (CX D G H)) (QI (bA 11 b) (fun r h => Array.size h = Array.size H ∧ BD D G b (pt R t) h ∧ ptn R t = r)) 0 0 (bA 11 b) := by
  refine Met.ofW (cc := cX0_passTicks) (maxL := 4) (ret := (some .int)) (by decide) rfl ?_
  intro p e s m args below meth c s₁ B hml hv
  obtain ⟨rfl, rfl, hK, hN⟩ := hv
  have hx := B.exec
  have hb := B.bytes
  have hr := B.returns
  have hts := atoms_spec (ws := wsX0_passTicks) B.pre
  have hown : s.vm.findClass RX0 = some m.cls := findClass_of_methodNamed B.named
  have hlocks := B.notSynchronized
  have hF : CallFix p m c cX0_passTicks 4 s ([.ref (b 0), .int (nI t)] : List Value).toArray wsX0_passTicks RX0 := ⟨hx, hb, hml, hown, hts⟩
  have hS : va_S (bA 11 b) s.heap s.heap [] := va_S.rf
  have hl := lv_entry ([.ref (b 0), .int (nI t)]) (n := 4) (Nat.le_of_ble_eq_true rfl)
  rw [lg_entry_eq]
  generalize (lg_sl ([.ref (b 0), .int (nI t)]) ++ List.replicate (4 - (lg_sl ([.ref (b 0), .int (nI t)])).length) Slot.unset).toArray = ls at hl ⊢
  have hl : lv_has ls 4 [(0, .ref (b 0)), (1, .int (nI t))] := hl
  have hsz : Array.size s.heap = Array.size s.heap := rfl
  refine lv_iconst (v := 0) hx hb dX0_passTicks_0 (by decide) ?_
  refine lv_istore_n (lv' := [(2, .int 0), (0, .ref (b 0)), (1, .int (nI t))]) hx hb dX0_passTicks_1 rfl hl (by decide) rfl (fun ls hl => ?_)
  refine lv_iconst (v := 0) hx hb dX0_passTicks_2 (by decide) ?_
  refine lv_istore_n (lv' := [(3, .int 0), (2, .int 0), (0, .ref (b 0)), (1, .int (nI t))]) hx hb dX0_passTicks_3 rfl hl (by decide) rfl (fun ls hl => ?_)
  have loop4 : ∀ (n : Nat) (i : Nat) (acc : Int32) (Hh : Heap) (_ : i + n = t) (_ : acc = ptn R i) (_ : BD D G b (pt R i) Hh) (_ : Array.size Hh = Array.size s.heap) (locs : List Loc) (_ : va_S (bA 11 b) s.heap Hh locs) (ls : Array Slot) (_ : lv_has ls 4 [(0, .ref (b 0)), (1, .int (nI t)), (2, .int acc), (3, .int (nI i))]), W p l e (headSpec wsX0_passTicks ({ frames := 4, cells := 0, slots := 0, locals := 92 } : Room)).room s m ([.ref (b 0), .int (nI t)] : List Value).toArray below meth c Hh locs 0 0 (MQ below (QI (bA 11 b) (fun r h => Array.size h = Array.size s.heap ∧ BD D G b (pt R t) h ∧ ptn R t = r)) ([.ref (b 0), .int (nI t)] : List Value).toArray s 0 0 (bA 11 b)) (F0 m 4 ls []) := by
    intro n
    induction n with
    | zero =>
      intro i acc Hh hin hacc hB hsz locs hS ls hl
      have hi9 : i = t := by omega
      rw [hi9] at hB hacc
      refine lv_iload_n hx hb dX0_passTicks_4 rfl (lv_at hl 3 rfl) ?_
      refine lv_iload_n hx hb dX0_passTicks_5 rfl (lv_at hl 1 rfl) ?_
      refine lv_icmp_ge (tgt := 22) hx hb dX0_passTicks_6 (by decide) (fun c1 => ?_) (fun c1 => absurd (nI_le (a := t) (b := i) (by omega) (by omega)) c1)
      refine lv_iload_n hx hb dX0_passTicks_22 rfl (lv_at hl 2 rfl) ?_
      exact W.iret hx hb hr (fun t ht hW => ⟨⟨acc, Hh, rfl, ⟨hsz, hB, hacc.symm⟩, ht⟩, hS.F ht⟩) hS.2.2 dX0_passTicks_23
    | succ n ih4 =>
      intro i acc Hh hin hacc hB hsz locs hS ls hl
      refine lv_iload_n hx hb dX0_passTicks_4 rfl (lv_at hl 3 rfl) ?_
      refine lv_iload_n hx hb dX0_passTicks_5 rfl (lv_at hl 1 rfl) ?_
      refine lv_icmp_ge (tgt := 22) hx hb dX0_passTicks_6 (by decide) (fun c2 => absurd c2 (nI_ge (a := i) (b := t) (by omega) (by omega))) (fun c2 => ?_)
      refine lv_iload_n hx hb dX0_passTicks_9 rfl (lv_at hl 2 rfl) ?_
      refine lv_aload_n hx hb dX0_passTicks_10 rfl (lv_at hl 0 rfl) ?_
      refine dp_Vi hF hK hN (c_X0_tick l D G b (pt R i) _ hB hn (hm i (by omega))) (cwV 0 hts gX0_passTicks_X0_tick rfl rfl rfl (by decide +kernel) ⟨Nat.le_of_ble_eq_true rfl, Nat.le_of_ble_eq_true rfl⟩) (dp_recv hK hB.1 rfl) hS (fun q hq => hq) [.int acc] rfl rfl hl.1 (Nat.le_of_ble_eq_true rfl) dX0_passTicks_11 ⟨Nat.le_of_ble_eq_true rfl, Nat.le_of_ble_eq_true rfl⟩ (fun rH1 H1 locs hp hzH1 hkH1 hS => ?_)
      obtain ⟨hz9, hB, rfl⟩ := hp
      have hsz := hz9.trans hsz
      have hB : BD D G b (pt R (i + 1)) H1 := hB
      refine lv_iadd hx hb dX0_passTicks_14 ?_
      refine lv_istore_n (lv' := [(2, .int (acc + (tkn (pt R i)))), (0, .ref (b 0)), (1, .int (nI t)), (3, .int (nI i))]) hx hb dX0_passTicks_15 rfl hl (by decide) rfl (fun ls hl => ?_)
      refine lv_iinc (v := nI (i + 1)) (lv' := [(3, .int (nI (i + 1))), (2, .int (acc + (tkn (pt R i)))), (0, .ref (b 0)), (1, .int (nI t))]) hx hb dX0_passTicks_16 hl (k := 3) rfl (nI_1 i) (by decide) rfl (fun ls hl => ?_)
      refine lv_goto (tgt := 4) hx hb dX0_passTicks_19 (by decide) ?_
      exact ih4 (i + 1) (acc + (tkn (pt R i))) H1 (by omega) (by rw [ptn, hacc]) hB hsz _ hS _ (lv_sub hl [2, 3, 1, 0] rfl)
  exact loop4 t 0 0 s.heap (by omega) rfl hB hsz _ hS _ (lv_sub hl [2, 3, 1, 0] rfl)
end
