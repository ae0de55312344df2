/-! from the law's entry to its loop -/
theorem al_lt {N o k : Nat} (hk : k < 104) : al N o k < N + 104 := by
  have a := al_cs (N := N) (o := o) (k := k) (by omega)
  omega
set_option maxHeartbeats 1600000 in
set_option maxRecDepth 100000 in
theorem law_all {p : Program} {l : Launch} {e : Env} {s : State} {m : MethodId} {below : List Frame} {meth : Method} {c : Code} {b L : Nat} {xs : Nat → Int32} {Q : State → Prop} (hx : p.tables.exec = Jvm.exec) (hb : c.code = cL_law) (hml : c.maxLocals = 9) (hown : s.vm.findClass RL = some m.cls) (hts0 : ∀ w ∈ lw_tbl, w.before #[Value.ref b] s = true) (hl9 : l.stackTraces = false) (hX : va_X b L xs s s.heap) (hbl : b < s.heap.size) (hL : L ≤ 2048) (hgv : (Jvm.Cond.and given_1 narrow_1).before #[Value.ref b] s = true)
    (fin : ∀ (H : Heap) (locs : List Loc) (ls : Array Slot) (k n : Nat), va_S (fun q => s.heap.size ≤ q) s.heap H locs → k ≤ 643901 → n ≤ 7164402 → W p l e room_1 s m #[Value.ref b] below meth c H locs k n Q (F0 m 1580 ls [])) : W p l e room_1 s m #[Value.ref b] below meth c s.heap [] 0 0 Q (entryFrame m ([Value.ref b] : List Value).toArray 9) := by
  obtain ⟨D, hD⟩ := st_D hts0
  obtain ⟨G, hG⟩ := st_G hts0
  have hK : va_K D vwCl (tyS G) s := ⟨hD, hG⟩
  have hN := st_NW hts0
  have hO := st_AO hts0
  have hE := st_EWt hts0 hgv
  have hZ := st_EWh hts0 hgv
  have hC := st_LC hgv
  have hts : ∀ w ∈ wsL_law, w.before #[Value.ref b] s = true := fun w h => hts0 w (lawIn w h)
  have hF : CallFix p m c cL_law 9 s #[Value.ref b] wsL_law RL := ⟨hx, hb, hml, hown, hts⟩
  have hw1 := hts0 (.classLink RL 8 RX5) (by decide +kernel)
  have hw2 := hts0 (.instantiable RX5 6) (by decide +kernel)
  have hw3 := hts0 (.initialized RX5) (by decide +kernel)
  have hw4 := hts0 (.methodLink RL 82 yX5_init) (by decide +kernel)
  have hw5 := hts0 (.instanceMethod yX5_init) (by decide +kernel)
  have hw6 := hts0 (.classLink RL 83 RX6) (by decide +kernel)
  have hw7 := hts0 (.instantiable RX6 17) (by decide +kernel)
  have hw8 := hts0 (.initialized RX6) (by decide +kernel)
  have hw9 := hts0 (.methodLink RL 85 yX6_init) (by decide +kernel)
  have hw10 := hts0 (.instanceMethod yX6_init) (by decide +kernel)
  have hw11 := hts0 (.arrayClass .long) (by decide +kernel)
  have hS : va_S (fun q => s.heap.size ≤ q) s.heap s.heap [] := va_S.rf
  have hl := lv_entry ([.ref b]) (n := 9) (Nat.le_of_ble_eq_true rfl)
  rw [lg_entry_eq]
  generalize (lg_sl ([.ref b]) ++ List.replicate (9 - (lg_sl ([.ref b])).length) Slot.unset).toArray = ls at hl ⊢
  have hl : lv_has ls 9 [(0, .ref b)] := hl
  refine dp_new (ci := 5) (C := RX5) (T := TX5) (N := 6) (fs := [.null, .null, .null, .int 0, .null, .null]) hx hb hts inlX5 tyX5 tyX5_ok hown hw1 hw2 hw3 hK hS rfl (fun j hj => by rcases (show j = 0 ∨ j = 1 ∨ j = 2 ∨ j = 3 ∨ j = 4 ∨ j = 5 by omega) with rfl | rfl | rfl | rfl | rfl | rfl <;> rfl) (Nat.le_of_ble_eq_true rfl) (Nat.le_of_ble_eq_true rfl) dL_law_0 s.heap.size rfl (fun H1 f1 hz1 hk1 hS => ?_)
  refine lv_dup hx hb dL_law_3 rfl ?_
  refine dp_Iv hF hK hN hO (c_X5_init l D G s.heap.size _ f1 hz1) (cwI 0 hts gL_law_X5_init rfl rfl rfl hw3 hw4 hw5 rfl (by decide +kernel) ⟨Nat.le_of_ble_eq_true rfl, Nat.le_of_ble_eq_true rfl⟩) hS (fun q hq => by rcases (show q = s.heap.size ∨ H1.size ≤ q from hq) with hq | hq <;> omega) [.ref s.heap.size] rfl rfl hl.1 (Nat.le_of_ble_eq_true rfl) dL_law_4 ⟨Nat.le_of_ble_eq_true rfl, Nat.le_of_ble_eq_true rfl⟩ (fun H2 locs hp hz2 hk2 hS => ?_)
  obtain ⟨hz2, hDP⟩ := hp
  replace hz2 : H2.size = s.heap.size + 104 := by omega
  refine lv_astore_n (lv' := [(1, .ref s.heap.size), (0, .ref b)]) hx hb dL_law_7 rfl hl (by decide) rfl (fun ls hl => ?_)
  refine dp_new (ci := 6) (C := RX6) (T := TX6) (N := 17) (fs := [.null, .null, .int 0, .null, .int 0, .null, .int 0, .null, .int 0, .null, .int 0, .int 0, .int 0, .null, .null, .null, .long 0]) hx hb hts inlX6 tyX6 tyX6_ok hown hw6 hw7 hw8 hK hS rfl (fun j hj => by rcases (show j = 0 ∨ j = 1 ∨ j = 2 ∨ j = 3 ∨ j = 4 ∨ j = 5 ∨ j = 6 ∨ j = 7 ∨ j = 8 ∨ j = 9 ∨ j = 10 ∨ j = 11 ∨ j = 12 ∨ j = 13 ∨ j = 14 ∨ j = 15 ∨ j = 16 by omega) with rfl | rfl | rfl | rfl | rfl | rfl | rfl | rfl | rfl | rfl | rfl | rfl | rfl | rfl | rfl | rfl | rfl <;> rfl) (Nat.le_of_ble_eq_true rfl) (Nat.le_of_ble_eq_true rfl) dL_law_8 (s.heap.size + 104) hz2 (fun H3 f3 hz3 hk3 hS => ?_)
  refine lv_dup hx hb dL_law_11 rfl ?_
  refine dp_Iv hF hK hN hO (c_X6_init l D G (s.heap.size + 104) _ f3) (cwI 0 hts gL_law_X6_init rfl rfl rfl hw8 hw9 hw10 rfl (by decide +kernel) ⟨Nat.le_of_ble_eq_true rfl, Nat.le_of_ble_eq_true rfl⟩) hS (fun q hq => by rcases (show q = s.heap.size + 104 ∨ H3.size ≤ q from hq) with hq | hq <;> omega) [.ref (s.heap.size + 104)] rfl rfl hl.1 (Nat.le_of_ble_eq_true rfl) dL_law_12 ⟨Nat.le_of_ble_eq_true rfl, Nat.le_of_ble_eq_true rfl⟩ (fun H4 locs hp hz4 hk4 hS => ?_)
  obtain ⟨hz9, hM⟩ := hp
  rw [hz3] at hM hz9
  refine lv_astore_n (lv' := [(2, .ref (s.heap.size + 104)), (1, .ref s.heap.size), (0, .ref b)]) hx hb dL_law_15 rfl hl (by decide) rfl (fun ls hl => ?_)
  refine lv_iconst (v := 1) hx hb dL_law_16 (by decide) ?_
  refine dp_newl hx hb hw11 hK 4 rfl hS 1 rfl (by decide) (Nat.le_of_ble_eq_true rfl) (Nat.le_of_ble_eq_true rfl) dL_law_17 H4.size rfl (fun H5 f5 hz5 hk5 hS => ?_)
  refine lv_astore_n (lv' := [(3, .ref H4.size), (2, .ref (s.heap.size + 104)), (1, .ref s.heap.size), (0, .ref b)]) hx hb dL_law_19 rfl hl (by decide) rfl (fun ls hl => ?_)
  refine lv_iconst (v := 0) hx hb dL_law_20 (by decide) ?_
  refine lv_istore (lv' := [(4, .int 0), (3, .ref H4.size), (2, .ref (s.heap.size + 104)), (1, .ref s.heap.size), (0, .ref b)]) hx hb dL_law_21 hl (by decide) rfl (fun ls hl => ?_)
  have ho : s.heap.size + 114 ≤ H4.size := by omega
  have hDW : DW D G (al s.heap.size H4.size) r0 r0 0 (fun _ => r0) 0 (fun _ => 0) 0 H5 := by
    refine DW.all (H := H2) ⟨fun i => i, r0, st_pm, hDP H4.size⟩ (fun k hk9 hlt => ?_)
    have h9 := al_lt (N := s.heap.size) (o := H4.size) hk9
    rw [hk5 _ (by omega), hk4 _ (by omega) (by show ¬ (_ = _ ∨ _ ≤ _); omega), hk3 _ (by omega)]
  have hMM : MM D G (mu s.heap.size) r0 (fun _ => 0) (fun _ => 0) (fun _ => 0) (nI 0) 0 0 (nI 0) H5 :=
    (MM.of hM).cl ho (A := nA) (fun q hq => hq.elim) (fun q hq _ => hk5 q hq)
  have hI : LInv D G s.heap.size H4.size 0 H5 := ⟨r0, r0, fun _ => 0, fun _ => 0, fun _ => 0, fun _ => r0, 0, 0, 0, 0, fun _ => 0, 0, hDW, hMM, f5, r0_gd, r0_bud, Nat.zero_le _, Nat.zero_le _, fun i hi => absurd hi (Nat.not_lt_zero _), fun h => absurd rfl h, Nat.le_refl _⟩
  have C0 : LC p l s m b c D G s.heap.size H4.size L xs := ⟨hx, hb, hml, hown, hts, hK, hN, hE, hZ, hC, hl9, Nat.le_refl _, ho, hX, hbl, hL⟩
  exact law_loop C0 115 1201 (by decide) (by decide) fin 512 0 H5 _ ls rfl hS hI (lv_sub hl [4, 3, 2, 1, 0] rfl)
