set_option maxHeartbeats 1600000 in
set_option maxRecDepth 100000 in
/-- from the law's entry to its end -/
theorem law_all {p : Program} {l : Launch} {e : Env} {s : State} {m : MethodId} {below : List Frame} {meth : Method} {c : Code} {b L : Nat} {xs : Nat → Int32} {Q : State → Prop} (hx : p.tables.exec = Jvm.exec) (hb : c.code = cL_law) (hml : c.maxLocals = 12) (hown : s.vm.findClass RL = some m.cls) (hts0 : ∀ w ∈ lw_tbl, w.before #[Value.ref b] s = true) (hX : va_X b L xs s s.heap) (hbl : b < s.heap.size) (hL9 : L ≤ 260) (hgv : (Jvm.Cond.and given_1 narrow_1).before #[Value.ref b] s = true) (fin : ∀ (H : Heap) (locs : List Loc) (ls : Array Slot), va_S (fun q => s.heap.size ≤ q) s.heap H locs → W p l e room_1 s m #[Value.ref b] below meth c H locs 111 702 Q (F0 m 316 ls [.int 1])) : W p l e room_1 s m #[Value.ref b] below meth c s.heap [] 0 0 Q (entryFrame m ([Value.ref b] : List Value).toArray 12) := by
  obtain ⟨D, hD⟩ := st_D hts0
  obtain ⟨G, hG⟩ := st_G hts0
  have hK : va_K D vwCl (tyS G) s := ⟨hD, hG⟩
  have hN := st_NW hts0
  have hO3 := st_AO hts0
  have hZ := st_ST2 hts0 hgv
  have hts : ∀ w ∈ wsL_law, w.before #[Value.ref b] s = true := fun w h => hts0 w (lawIn w h)
  have hF : CallFix p m c cL_law 12 s #[Value.ref b] wsL_law RL := ⟨hx, hb, hml, hown, hts⟩
  obtain ⟨α, hαe⟩ : ∃ α, α = al s.heap.size (s.heap.size + 114) := ⟨_, rfl⟩
  have hα : inj 115 α := by rw [hαe]; exact al_inj (Nat.le_refl _)
  have hrg : ∀ k, k < 115 → s.heap.size ≤ α k := fun k hk => by rw [hαe]; exact (al_rng (Nat.le_refl _) hk).1
  have hα0 : s.heap.size = α 0 := by rw [hαe]; rfl
  have ham : ∀ k, 104 ≤ k → k < 114 → α k = s.heap.size + k := fun k h1 h2 => by rw [hαe]; exact al_m h1 h2
  have e0 : lm α 0 = s.heap.size + 104 := ham 104 (by decide) (by decide)
  have e1 : lm α 1 = s.heap.size + 105 := ham 105 (by decide) (by decide)
  have e2 : lm α 2 = s.heap.size + 106 := ham 106 (by decide) (by decide)
  have e3 : lm α 3 = s.heap.size + 107 := ham 107 (by decide) (by decide)
  have e4 : ln α 0 = s.heap.size + 108 := ham 108 (by decide) (by decide)
  have e5 : ln α 1 = s.heap.size + 109 := ham 109 (by decide) (by decide)
  have e6 : ln α 2 = s.heap.size + 110 := ham 110 (by decide) (by decide)
  have hw1 := hts0 (.classLink RL 45 RX5) (by decide +kernel)
  have hw2 := hts0 (.instantiable RX5 6) (by decide +kernel)
  have hw3 := hts0 (.initialized RX5) (by decide +kernel)
  have hw4 := hts0 (.methodLink RL 129 yX5_init) (by decide +kernel)
  have hw5 := hts0 (.instanceMethod yX5_init) (by decide +kernel)
  have hw6 := hts0 (.arrayClass .int) (by decide +kernel)
  have hS : va_S (fun q => s.heap.size ≤ q) s.heap s.heap [] := va_S.rf
  have hl := lv_entry ([.ref b]) (n := 12) (Nat.le_of_ble_eq_true rfl)
  rw [lg_entry_eq]
  generalize (lg_sl ([.ref b]) ++ List.replicate (12 - (lg_sl ([.ref b])).length) Slot.unset).toArray = ls at hl ⊢
  have hl : lv_has ls 12 [(0, .ref b)] := hl
  refine dp_new (ci := 5) (C := RX5) (T := TX5) (N := 6) (fs := [.null, .null, .null, .int 0, .null, .null]) hx hb hts inlX5 tyX5 tyX5_ok hown hw1 hw2 hw3 hK hS rfl (fun j hj => by rcases (show j = 0 ∨ j = 1 ∨ j = 2 ∨ j = 3 ∨ j = 4 ∨ j = 5 by omega) with rfl | rfl | rfl | rfl | rfl | rfl <;> rfl) (Nat.le_of_ble_eq_true rfl) (Nat.le_of_ble_eq_true rfl) dL_law_0 (α 0) hα0 (fun H1 f1 hz1 hk1 hS => ?_)
  refine lv_dup hx hb dL_law_3 rfl ?_
  refine dp_Iv hF hK hN hO3 (c_X5_init l D G (α 0) _ f1 hz1) (cwI 0 hts gL_law_X5_init rfl rfl rfl hw3 hw4 hw5 rfl (by decide +kernel) ⟨Nat.le_of_ble_eq_true rfl, Nat.le_of_ble_eq_true rfl⟩) hS (fun q hq => by rcases (show q = α 0 ∨ H1.size ≤ q from hq) with hq | hq <;> omega) [.ref (α 0)] rfl rfl hl.1 (Nat.le_of_ble_eq_true rfl) dL_law_4 ⟨Nat.le_of_ble_eq_true rfl, Nat.le_of_ble_eq_true rfl⟩ (fun H2 locs hp hz2 hk2 hS => ?_)
  obtain ⟨hz9, hDP⟩ := hp
  replace hz2 : H2.size = s.heap.size + 104 := by omega
  refine lv_astore_n (lv' := [(1, .ref (α 0)), (0, .ref b)]) hx hb dL_law_7 rfl hl (by decide) rfl (fun ls hl => ?_)
  refine lv_bipush (v := 30) hx hb dL_law_8 (by decide) ?_
  refine dp_newi hx hb hw6 hK 0 rfl hS 30 rfl (by decide) (Nat.le_of_ble_eq_true rfl) (Nat.le_of_ble_eq_true rfl) dL_law_10 (lm α 0) (hz2.trans e0.symm) (fun H3 f3 hz3 hk3 hS => ?_)
  replace hz3 : H3.size = s.heap.size + 105 := hz3.trans (congrArg (· + 1) e0)
  refine lv_astore_n (lv' := [(2, .ref (lm α 0)), (1, .ref (α 0)), (0, .ref b)]) hx hb dL_law_12 rfl hl (by decide) rfl (fun ls hl => ?_)
  refine lv_bipush (v := 12) hx hb dL_law_13 (by decide) ?_
  refine dp_newi hx hb hw6 hK 0 rfl hS 12 rfl (by decide) (Nat.le_of_ble_eq_true rfl) (Nat.le_of_ble_eq_true rfl) dL_law_15 (lm α 1) (hz3.trans e1.symm) (fun H4 f4 hz4 hk4 hS => ?_)
  replace hz4 : H4.size = s.heap.size + 106 := hz4.trans (congrArg (· + 1) e1)
  refine lv_astore_n (lv' := [(3, .ref (lm α 1)), (2, .ref (lm α 0)), (1, .ref (α 0)), (0, .ref b)]) hx hb dL_law_17 rfl hl (by decide) rfl (fun ls hl => ?_)
  refine lv_bipush (v := 8) hx hb dL_law_18 (by decide) ?_
  refine dp_newi hx hb hw6 hK 0 rfl hS 8 rfl (by decide) (Nat.le_of_ble_eq_true rfl) (Nat.le_of_ble_eq_true rfl) dL_law_20 (lm α 2) (hz4.trans e2.symm) (fun H5 f5 hz5 hk5 hS => ?_)
  replace hz5 : H5.size = s.heap.size + 107 := hz5.trans (congrArg (· + 1) e2)
  refine lv_astore (lv' := [(4, .ref (lm α 2)), (3, .ref (lm α 1)), (2, .ref (lm α 0)), (1, .ref (α 0)), (0, .ref b)]) hx hb dL_law_22 hl (by decide) rfl (fun ls hl => ?_)
  refine lv_iconst (v := 4) hx hb dL_law_24 (by decide) ?_
  refine dp_newi hx hb hw6 hK 0 rfl hS 4 rfl (by decide) (Nat.le_of_ble_eq_true rfl) (Nat.le_of_ble_eq_true rfl) dL_law_25 (lm α 3) (hz5.trans e3.symm) (fun H6 f6 hz6 hk6 hS => ?_)
  replace hz6 : H6.size = s.heap.size + 108 := hz6.trans (congrArg (· + 1) e3)
  refine lv_astore (lv' := [(5, .ref (lm α 3)), (4, .ref (lm α 2)), (3, .ref (lm α 1)), (2, .ref (lm α 0)), (1, .ref (α 0)), (0, .ref b)]) hx hb dL_law_27 hl (by decide) rfl (fun ls hl => ?_)
  refine lv_bipush (v := 30) hx hb dL_law_29 (by decide) ?_
  refine dp_newi hx hb hw6 hK 0 rfl hS 30 rfl (by decide) (Nat.le_of_ble_eq_true rfl) (Nat.le_of_ble_eq_true rfl) dL_law_31 (ln α 0) (hz6.trans e4.symm) (fun H7 f7 hz7 hk7 hS => ?_)
  replace hz7 : H7.size = s.heap.size + 109 := hz7.trans (congrArg (· + 1) e4)
  refine lv_astore (lv' := [(6, .ref (ln α 0)), (5, .ref (lm α 3)), (4, .ref (lm α 2)), (3, .ref (lm α 1)), (2, .ref (lm α 0)), (1, .ref (α 0)), (0, .ref b)]) hx hb dL_law_33 hl (by decide) rfl (fun ls hl => ?_)
  refine lv_bipush (v := 12) hx hb dL_law_35 (by decide) ?_
  refine dp_newi hx hb hw6 hK 0 rfl hS 12 rfl (by decide) (Nat.le_of_ble_eq_true rfl) (Nat.le_of_ble_eq_true rfl) dL_law_37 (ln α 1) (hz7.trans e5.symm) (fun H8 f8 hz8 hk8 hS => ?_)
  replace hz8 : H8.size = s.heap.size + 110 := hz8.trans (congrArg (· + 1) e5)
  refine lv_astore (lv' := [(7, .ref (ln α 1)), (6, .ref (ln α 0)), (5, .ref (lm α 3)), (4, .ref (lm α 2)), (3, .ref (lm α 1)), (2, .ref (lm α 0)), (1, .ref (α 0)), (0, .ref b)]) hx hb dL_law_39 hl (by decide) rfl (fun ls hl => ?_)
  refine lv_bipush (v := 8) hx hb dL_law_41 (by decide) ?_
  refine dp_newi hx hb hw6 hK 0 rfl hS 8 rfl (by decide) (Nat.le_of_ble_eq_true rfl) (Nat.le_of_ble_eq_true rfl) dL_law_43 (ln α 2) (hz8.trans e6.symm) (fun H9 f9 hz9 hkk9 hS => ?_)
  replace hz9 : H9.size = s.heap.size + 111 := hz9.trans (congrArg (· + 1) e6)
  refine lv_astore (lv' := [(8, .ref (ln α 2)), (7, .ref (ln α 1)), (6, .ref (ln α 0)), (5, .ref (lm α 3)), (4, .ref (lm α 2)), (3, .ref (lm α 1)), (2, .ref (lm α 0)), (1, .ref (α 0)), (0, .ref b)]) hx hb dL_law_45 hl (by decide) rfl (fun ls hl => ?_)
  replace f3 := ((((((f3).kept (hk4 _ (by rw [e0, e1]; exact Nat.add_lt_add_left (by decide) _))).kept (hk5 _ (by rw [e0, e2]; exact Nat.add_lt_add_left (by decide) _))).kept (hk6 _ (by rw [e0, e3]; exact Nat.add_lt_add_left (by decide) _))).kept (hk7 _ (by rw [e0, e4]; exact Nat.add_lt_add_left (by decide) _))).kept (hk8 _ (by rw [e0, e5]; exact Nat.add_lt_add_left (by decide) _))).kept (hkk9 _ (by rw [e0, e6]; exact Nat.add_lt_add_left (by decide) _))
  replace f4 := (((((f4).kept (hk5 _ (by rw [e1, e2]; exact Nat.add_lt_add_left (by decide) _))).kept (hk6 _ (by rw [e1, e3]; exact Nat.add_lt_add_left (by decide) _))).kept (hk7 _ (by rw [e1, e4]; exact Nat.add_lt_add_left (by decide) _))).kept (hk8 _ (by rw [e1, e5]; exact Nat.add_lt_add_left (by decide) _))).kept (hkk9 _ (by rw [e1, e6]; exact Nat.add_lt_add_left (by decide) _))
  replace f5 := ((((f5).kept (hk6 _ (by rw [e2, e3]; exact Nat.add_lt_add_left (by decide) _))).kept (hk7 _ (by rw [e2, e4]; exact Nat.add_lt_add_left (by decide) _))).kept (hk8 _ (by rw [e2, e5]; exact Nat.add_lt_add_left (by decide) _))).kept (hkk9 _ (by rw [e2, e6]; exact Nat.add_lt_add_left (by decide) _))
  replace f6 := (((f6).kept (hk7 _ (by rw [e3, e4]; exact Nat.add_lt_add_left (by decide) _))).kept (hk8 _ (by rw [e3, e5]; exact Nat.add_lt_add_left (by decide) _))).kept (hkk9 _ (by rw [e3, e6]; exact Nat.add_lt_add_left (by decide) _))
  replace f7 := ((f7).kept (hk8 _ (by rw [e4, e5]; exact Nat.add_lt_add_left (by decide) _))).kept (hkk9 _ (by rw [e4, e6]; exact Nat.add_lt_add_left (by decide) _))
  replace f8 := (f8).kept (hkk9 _ (by rw [e5, e6]; exact Nat.add_lt_add_left (by decide) _))
  have eα : al (α 0) (s.heap.size + 114) = α := by rw [← hα0]; exact hαe.symm
  have hO2 : OB D G α r0 H2 := ⟨r0, 0, fun _ => r0, 0, fun _ => 0, 0, by decide, by decide, fun i => i, r0, ⟨fun i hi => hi, fun i j _ _ h => h⟩, by have h9 := hDP (s.heap.size + 114); rw [eα] at h9; exact h9⟩
  have hO : OB D G α r0 H9 := hO2.all (fun k hk9 hlt => by
    rw [hz2] at hlt
    rw [hkk9 _ (by rw [e6]; exact Nat.lt_of_lt_of_le hlt (Nat.add_le_add_left (by decide) _)), hk8 _ (by rw [e5]; exact Nat.lt_of_lt_of_le hlt (Nat.add_le_add_left (by decide) _)), hk7 _ (by rw [e4]; exact Nat.lt_of_lt_of_le hlt (Nat.add_le_add_left (by decide) _)), hk6 _ (by rw [e3]; exact Nat.lt_of_lt_of_le hlt (Nat.add_le_add_left (by decide) _)), hk5 _ (by rw [e2]; exact Nat.lt_of_lt_of_le hlt (Nat.add_le_add_left (by decide) _)), hk4 _ (by rw [e1]; exact Nat.lt_of_lt_of_le hlt (Nat.add_le_add_left (by decide) _)), hk3 _ (by rw [e0]; exact Nat.lt_of_lt_of_le hlt (Nat.add_le_add_left (by decide) _))])
  have hμ := lm_inj hα
  have hL : LB D G (lm α) (fun _ => 0) (fun _ => 0) H9 := LB.mk0 f3 f4 f5 f6
  have hL2 : LB D G (ln α) (fun _ => 0) (fun _ => 0) H9 := LB.mk0 f7 f8 f9 f6
  refine lv_aload hx hb dL_law_47 (lv_at hl 4 rfl) ?_
  refine lv_iconst (v := 0) hx hb dL_law_49 (by decide) ?_
  refine lv_iconst (v := 3) hx hb dL_law_50 (by decide) ?_
  refine dp_iast (A := fun q => s.heap.size ≤ q) hx hb hK hL.2.2.1 (hrg (104 + 2) (by decide)) hS 0 rfl (0) rfl (by decide) (by decide) dL_law_51 (fun H1 locs hH1 hzH1 hkH1 hS => ?_)
  replace hO := hO.ad (i := 2) hα (by decide) hkH1
  replace hL2 := hL2.ad2 (i := 2) hα (by decide) hkH1
  have hL : LB D G (lm α) (upd ((fun _ => 0)) 0 3) ((fun _ => 0)) H1 := hL.n hμ (by decide) hH1 hkH1
  refine lv_aload hx hb dL_law_52 (lv_at hl 4 rfl) ?_
  refine lv_iconst (v := 1) hx hb dL_law_54 (by decide) ?_
  refine lv_iconst (v := 2) hx hb dL_law_55 (by decide) ?_
  refine dp_iast (A := fun q => s.heap.size ≤ q) hx hb hK hL.2.2.1 (hrg (104 + 2) (by decide)) hS 0 rfl (1) rfl (by decide) (by decide) dL_law_56 (fun H2 locs hH2 hzH2 hkH2 hS => ?_)
  replace hO := hO.ad (i := 2) hα (by decide) hkH2
  replace hL2 := hL2.ad2 (i := 2) hα (by decide) hkH2
  have hL : LB D G (lm α) (upd (upd ((fun _ => 0)) 0 3) 1 2) ((fun _ => 0)) H2 := hL.n hμ (by decide) hH2 hkH2
  refine lv_aload hx hb dL_law_57 (lv_at hl 4 rfl) ?_
  refine lv_iconst (v := 2) hx hb dL_law_59 (by decide) ?_
  refine lv_bipush (v := 10) hx hb dL_law_60 (by decide) ?_
  refine dp_iast (A := fun q => s.heap.size ≤ q) hx hb hK hL.2.2.1 (hrg (104 + 2) (by decide)) hS 0 rfl (2) rfl (by decide) (by decide) dL_law_62 (fun H3 locs hH3 hzH3 hkH3 hS => ?_)
  replace hO := hO.ad (i := 2) hα (by decide) hkH3
  replace hL2 := hL2.ad2 (i := 2) hα (by decide) hkH3
  have hL : LB D G (lm α) (upd (upd (upd ((fun _ => 0)) 0 3) 1 2) 2 10) ((fun _ => 0)) H3 := hL.n hμ (by decide) hH3 hkH3
  refine lv_aload hx hb dL_law_63 (lv_at hl 4 rfl) ?_
  refine lv_iconst (v := 3) hx hb dL_law_65 (by decide) ?_
  refine lv_bipush (v := 30) hx hb dL_law_66 (by decide) ?_
  refine dp_iast (A := fun q => s.heap.size ≤ q) hx hb hK hL.2.2.1 (hrg (104 + 2) (by decide)) hS 0 rfl (3) rfl (by decide) (by decide) dL_law_68 (fun H4 locs hH4 hzH4 hkH4 hS => ?_)
  replace hO := hO.ad (i := 2) hα (by decide) hkH4
  replace hL2 := hL2.ad2 (i := 2) hα (by decide) hkH4
  have hL : LB D G (lm α) (upd (upd (upd (upd ((fun _ => 0)) 0 3) 1 2) 2 10) 3 30) ((fun _ => 0)) H4 := hL.n hμ (by decide) hH4 hkH4
  refine lv_iconst (v := 0) hx hb dL_law_69 (by decide) ?_
  refine lv_istore (lv' := [(9, .int 0), (8, .ref (ln α 2)), (7, .ref (ln α 1)), (6, .ref (ln α 0)), (5, .ref (lm α 3)), (4, .ref (lm α 2)), (3, .ref (lm α 1)), (2, .ref (lm α 0)), (1, .ref (α 0)), (0, .ref b)]) hx hb dL_law_70 hl (by decide) rfl (fun ls hl => ?_)
  refine lv_iload hx hb dL_law_72 (lv_at hl 0 rfl) ?_
  refine lv_iconst (v := 3) hx hb dL_law_74 (by decide) ?_
  refine lv_icmp_ge (tgt := 124) hx hb dL_law_75 (by decide) (fun c1 => absurd c1 (by decide)) (fun c1 => ?_)
  refine lv_aload_n hx hb dL_law_78 rfl (lv_at hl 7 rfl) ?_
  refine lv_bipush (v := 10) hx hb dL_law_79 (by decide) ?_
  refine lv_iload hx hb dL_law_81 (lv_at hl 0 rfl) ?_
  refine lv_imul hx hb dL_law_83 ?_
  refine lv_sipush (v := 200) hx hb dL_law_84 (by decide) ?_
  refine lv_bipush (v := 100) hx hb dL_law_87 (by decide) ?_
  refine lv_iload hx hb dL_law_89 (lv_at hl 0 rfl) ?_
  refine lv_imul hx hb dL_law_91 ?_
  refine lv_iadd hx hb dL_law_92 ?_
  refine dp_iast (A := fun q => s.heap.size ≤ q) hx hb hK hL.1 (hrg (104 + 0) (by decide)) hS 0 rfl (10 * 0 + 0) (by decide) (by have := ((by decide) : 0 < 3); have := ((by decide) : 0 < 10); omega) (by decide) dL_law_93 (fun H5 locs hH5 hzH5 hkH5 hS => ?_)
  replace hO := hO.ad (i := 0) hα (by decide) hkH5
  replace hL2 := hL2.ad2 (i := 0) hα (by decide) hkH5
  have hL : LB D G (lm α) (upd (upd (upd (upd (upd ((fun _ => 0)) 0 3) 1 2) 2 10) 3 30) (8 + 10 * 0) (200 + (100 * 0))) ((fun _ => 0)) H5 := hL.d (w := 0) hμ (by decide) (by decide) rfl hH5 hkH5
  refine lv_aload_n hx hb dL_law_94 rfl (lv_at hl 7 rfl) ?_
  refine lv_bipush (v := 10) hx hb dL_law_95 (by decide) ?_
  refine lv_iload hx hb dL_law_97 (lv_at hl 0 rfl) ?_
  refine lv_imul hx hb dL_law_99 ?_
  refine lv_iconst (v := 1) hx hb dL_law_100 (by decide) ?_
  refine lv_iadd hx hb dL_law_101 ?_
  refine lv_sipush (v := 200) hx hb dL_law_102 (by decide) ?_
  refine dp_iast (A := fun q => s.heap.size ≤ q) hx hb hK hL.1 (hrg (104 + 0) (by decide)) hS 0 rfl (10 * 0 + 1) (by decide) (by have := ((by decide) : 0 < 3); have := ((by decide) : 1 < 10); omega) (by decide) dL_law_105 (fun H6 locs hH6 hzH6 hkH6 hS => ?_)
  replace hO := hO.ad (i := 0) hα (by decide) hkH6
  replace hL2 := hL2.ad2 (i := 0) hα (by decide) hkH6
  have hL : LB D G (lm α) (upd (upd (upd (upd (upd (upd ((fun _ => 0)) 0 3) 1 2) 2 10) 3 30) (8 + 10 * 0) (200 + (100 * 0))) (9 + 10 * 0) 200) ((fun _ => 0)) H6 := hL.d (w := 1) hμ (by decide) (by decide) rfl hH6 hkH6
  refine lv_aload_n hx hb dL_law_106 rfl (lv_at hl 7 rfl) ?_
  refine lv_bipush (v := 10) hx hb dL_law_107 (by decide) ?_
  refine lv_iload hx hb dL_law_109 (lv_at hl 0 rfl) ?_
  refine lv_imul hx hb dL_law_111 ?_
  refine lv_iconst (v := 2) hx hb dL_law_112 (by decide) ?_
  refine lv_iadd hx hb dL_law_113 ?_
  refine lv_sipush (v := 5000) hx hb dL_law_114 (by decide) ?_
  refine dp_iast (A := fun q => s.heap.size ≤ q) hx hb hK hL.1 (hrg (104 + 0) (by decide)) hS 0 rfl (10 * 0 + 2) (by decide) (by have := ((by decide) : 0 < 3); have := ((by decide) : 2 < 10); omega) (by decide) dL_law_117 (fun H7 locs hH7 hzH7 hkH7 hS => ?_)
  replace hO := hO.ad (i := 0) hα (by decide) hkH7
  replace hL2 := hL2.ad2 (i := 0) hα (by decide) hkH7
  have hL : LB D G (lm α) (upd (upd (upd (upd (upd (upd (upd ((fun _ => 0)) 0 3) 1 2) 2 10) 3 30) (8 + 10 * 0) (200 + (100 * 0))) (9 + 10 * 0) 200) (10 + 10 * 0) 5000) ((fun _ => 0)) H7 := hL.d (w := 2) hμ (by decide) (by decide) rfl hH7 hkH7
  refine lv_iinc (v := 1) (lv' := [(9, .int (1)), (8, .ref (ln α 2)), (7, .ref (ln α 1)), (6, .ref (ln α 0)), (5, .ref (lm α 3)), (4, .ref (lm α 2)), (3, .ref (lm α 1)), (2, .ref (lm α 0)), (1, .ref (α 0)), (0, .ref b)]) hx hb dL_law_118 hl (k := 0) rfl rfl (by decide) rfl (fun ls hl => ?_)
  refine lv_goto (tgt := 72) hx hb dL_law_121 (by decide) ?_
  refine lv_iload hx hb dL_law_72 (lv_at hl 0 rfl) ?_
  refine lv_iconst (v := 3) hx hb dL_law_74 (by decide) ?_
  refine lv_icmp_ge (tgt := 124) hx hb dL_law_75 (by decide) (fun c2 => absurd c2 (by decide)) (fun c2 => ?_)
  refine lv_aload_n hx hb dL_law_78 rfl (lv_at hl 7 rfl) ?_
  refine lv_bipush (v := 10) hx hb dL_law_79 (by decide) ?_
  refine lv_iload hx hb dL_law_81 (lv_at hl 0 rfl) ?_
  refine lv_imul hx hb dL_law_83 ?_
  refine lv_sipush (v := 200) hx hb dL_law_84 (by decide) ?_
  refine lv_bipush (v := 100) hx hb dL_law_87 (by decide) ?_
  refine lv_iload hx hb dL_law_89 (lv_at hl 0 rfl) ?_
  refine lv_imul hx hb dL_law_91 ?_
  refine lv_iadd hx hb dL_law_92 ?_
  refine dp_iast (A := fun q => s.heap.size ≤ q) hx hb hK hL.1 (hrg (104 + 0) (by decide)) hS 0 rfl (10 * 1 + 0) (by decide) (by have := ((by decide) : 1 < 3); have := ((by decide) : 0 < 10); omega) (by decide) dL_law_93 (fun H8 locs hH8 hzH8 hkH8 hS => ?_)
  replace hO := hO.ad (i := 0) hα (by decide) hkH8
  replace hL2 := hL2.ad2 (i := 0) hα (by decide) hkH8
  have hL : LB D G (lm α) (upd (upd (upd (upd (upd (upd (upd (upd ((fun _ => 0)) 0 3) 1 2) 2 10) 3 30) (8 + 10 * 0) (200 + (100 * 0))) (9 + 10 * 0) 200) (10 + 10 * 0) 5000) (8 + 10 * 1) (200 + (100 * 1))) ((fun _ => 0)) H8 := hL.d (w := 0) hμ (by decide) (by decide) rfl hH8 hkH8
  refine lv_aload_n hx hb dL_law_94 rfl (lv_at hl 7 rfl) ?_
  refine lv_bipush (v := 10) hx hb dL_law_95 (by decide) ?_
  refine lv_iload hx hb dL_law_97 (lv_at hl 0 rfl) ?_
  refine lv_imul hx hb dL_law_99 ?_
  refine lv_iconst (v := 1) hx hb dL_law_100 (by decide) ?_
  refine lv_iadd hx hb dL_law_101 ?_
  refine lv_sipush (v := 200) hx hb dL_law_102 (by decide) ?_
  refine dp_iast (A := fun q => s.heap.size ≤ q) hx hb hK hL.1 (hrg (104 + 0) (by decide)) hS 0 rfl (10 * 1 + 1) (by decide) (by have := ((by decide) : 1 < 3); have := ((by decide) : 1 < 10); omega) (by decide) dL_law_105 (fun H9 locs hH9 hzH9 hkH9 hS => ?_)
  replace hO := hO.ad (i := 0) hα (by decide) hkH9
  replace hL2 := hL2.ad2 (i := 0) hα (by decide) hkH9
  have hL : LB D G (lm α) (upd (upd (upd (upd (upd (upd (upd (upd (upd ((fun _ => 0)) 0 3) 1 2) 2 10) 3 30) (8 + 10 * 0) (200 + (100 * 0))) (9 + 10 * 0) 200) (10 + 10 * 0) 5000) (8 + 10 * 1) (200 + (100 * 1))) (9 + 10 * 1) 200) ((fun _ => 0)) H9 := hL.d (w := 1) hμ (by decide) (by decide) rfl hH9 hkH9
  refine lv_aload_n hx hb dL_law_106 rfl (lv_at hl 7 rfl) ?_
  refine lv_bipush (v := 10) hx hb dL_law_107 (by decide) ?_
  refine lv_iload hx hb dL_law_109 (lv_at hl 0 rfl) ?_
  refine lv_imul hx hb dL_law_111 ?_
  refine lv_iconst (v := 2) hx hb dL_law_112 (by decide) ?_
  refine lv_iadd hx hb dL_law_113 ?_
  refine lv_sipush (v := 5000) hx hb dL_law_114 (by decide) ?_
  refine dp_iast (A := fun q => s.heap.size ≤ q) hx hb hK hL.1 (hrg (104 + 0) (by decide)) hS 0 rfl (10 * 1 + 2) (by decide) (by have := ((by decide) : 1 < 3); have := ((by decide) : 2 < 10); omega) (by decide) dL_law_117 (fun H10 locs hH10 hzH10 hkH10 hS => ?_)
  replace hO := hO.ad (i := 0) hα (by decide) hkH10
  replace hL2 := hL2.ad2 (i := 0) hα (by decide) hkH10
  have hL : LB D G (lm α) (upd (upd (upd (upd (upd (upd (upd (upd (upd (upd ((fun _ => 0)) 0 3) 1 2) 2 10) 3 30) (8 + 10 * 0) (200 + (100 * 0))) (9 + 10 * 0) 200) (10 + 10 * 0) 5000) (8 + 10 * 1) (200 + (100 * 1))) (9 + 10 * 1) 200) (10 + 10 * 1) 5000) ((fun _ => 0)) H10 := hL.d (w := 2) hμ (by decide) (by decide) rfl hH10 hkH10
  refine lv_iinc (v := 2) (lv' := [(9, .int (2)), (8, .ref (ln α 2)), (7, .ref (ln α 1)), (6, .ref (ln α 0)), (5, .ref (lm α 3)), (4, .ref (lm α 2)), (3, .ref (lm α 1)), (2, .ref (lm α 0)), (1, .ref (α 0)), (0, .ref b)]) hx hb dL_law_118 hl (k := 0) rfl rfl (by decide) rfl (fun ls hl => ?_)
  refine lv_goto (tgt := 72) hx hb dL_law_121 (by decide) ?_
  refine lv_iload hx hb dL_law_72 (lv_at hl 0 rfl) ?_
  refine lv_iconst (v := 3) hx hb dL_law_74 (by decide) ?_
  refine lv_icmp_ge (tgt := 124) hx hb dL_law_75 (by decide) (fun c3 => absurd c3 (by decide)) (fun c3 => ?_)
  refine lv_aload_n hx hb dL_law_78 rfl (lv_at hl 7 rfl) ?_
  refine lv_bipush (v := 10) hx hb dL_law_79 (by decide) ?_
  refine lv_iload hx hb dL_law_81 (lv_at hl 0 rfl) ?_
  refine lv_imul hx hb dL_law_83 ?_
  refine lv_sipush (v := 200) hx hb dL_law_84 (by decide) ?_
  refine lv_bipush (v := 100) hx hb dL_law_87 (by decide) ?_
  refine lv_iload hx hb dL_law_89 (lv_at hl 0 rfl) ?_
  refine lv_imul hx hb dL_law_91 ?_
  refine lv_iadd hx hb dL_law_92 ?_
  refine dp_iast (A := fun q => s.heap.size ≤ q) hx hb hK hL.1 (hrg (104 + 0) (by decide)) hS 0 rfl (10 * 2 + 0) (by decide) (by have := ((by decide) : 2 < 3); have := ((by decide) : 0 < 10); omega) (by decide) dL_law_93 (fun H11 locs hH11 hzH11 hkH11 hS => ?_)
  replace hO := hO.ad (i := 0) hα (by decide) hkH11
  replace hL2 := hL2.ad2 (i := 0) hα (by decide) hkH11
  have hL : LB D G (lm α) (upd (upd (upd (upd (upd (upd (upd (upd (upd (upd (upd ((fun _ => 0)) 0 3) 1 2) 2 10) 3 30) (8 + 10 * 0) (200 + (100 * 0))) (9 + 10 * 0) 200) (10 + 10 * 0) 5000) (8 + 10 * 1) (200 + (100 * 1))) (9 + 10 * 1) 200) (10 + 10 * 1) 5000) (8 + 10 * 2) (200 + (100 * 2))) ((fun _ => 0)) H11 := hL.d (w := 0) hμ (by decide) (by decide) rfl hH11 hkH11
  refine lv_aload_n hx hb dL_law_94 rfl (lv_at hl 7 rfl) ?_
  refine lv_bipush (v := 10) hx hb dL_law_95 (by decide) ?_
  refine lv_iload hx hb dL_law_97 (lv_at hl 0 rfl) ?_
  refine lv_imul hx hb dL_law_99 ?_
  refine lv_iconst (v := 1) hx hb dL_law_100 (by decide) ?_
  refine lv_iadd hx hb dL_law_101 ?_
  refine lv_sipush (v := 200) hx hb dL_law_102 (by decide) ?_
  refine dp_iast (A := fun q => s.heap.size ≤ q) hx hb hK hL.1 (hrg (104 + 0) (by decide)) hS 0 rfl (10 * 2 + 1) (by decide) (by have := ((by decide) : 2 < 3); have := ((by decide) : 1 < 10); omega) (by decide) dL_law_105 (fun H12 locs hH12 hzH12 hkH12 hS => ?_)
  replace hO := hO.ad (i := 0) hα (by decide) hkH12
  replace hL2 := hL2.ad2 (i := 0) hα (by decide) hkH12
  have hL : LB D G (lm α) (upd (upd (upd (upd (upd (upd (upd (upd (upd (upd (upd (upd ((fun _ => 0)) 0 3) 1 2) 2 10) 3 30) (8 + 10 * 0) (200 + (100 * 0))) (9 + 10 * 0) 200) (10 + 10 * 0) 5000) (8 + 10 * 1) (200 + (100 * 1))) (9 + 10 * 1) 200) (10 + 10 * 1) 5000) (8 + 10 * 2) (200 + (100 * 2))) (9 + 10 * 2) 200) ((fun _ => 0)) H12 := hL.d (w := 1) hμ (by decide) (by decide) rfl hH12 hkH12
  refine lv_aload_n hx hb dL_law_106 rfl (lv_at hl 7 rfl) ?_
  refine lv_bipush (v := 10) hx hb dL_law_107 (by decide) ?_
  refine lv_iload hx hb dL_law_109 (lv_at hl 0 rfl) ?_
  refine lv_imul hx hb dL_law_111 ?_
  refine lv_iconst (v := 2) hx hb dL_law_112 (by decide) ?_
  refine lv_iadd hx hb dL_law_113 ?_
  refine lv_sipush (v := 5000) hx hb dL_law_114 (by decide) ?_
  refine dp_iast (A := fun q => s.heap.size ≤ q) hx hb hK hL.1 (hrg (104 + 0) (by decide)) hS 0 rfl (10 * 2 + 2) (by decide) (by have := ((by decide) : 2 < 3); have := ((by decide) : 2 < 10); omega) (by decide) dL_law_117 (fun H13 locs hH13 hzH13 hkH13 hS => ?_)
  replace hO := hO.ad (i := 0) hα (by decide) hkH13
  replace hL2 := hL2.ad2 (i := 0) hα (by decide) hkH13
  have hL : LB D G (lm α) (upd (upd (upd (upd (upd (upd (upd (upd (upd (upd (upd (upd (upd ((fun _ => 0)) 0 3) 1 2) 2 10) 3 30) (8 + 10 * 0) (200 + (100 * 0))) (9 + 10 * 0) 200) (10 + 10 * 0) 5000) (8 + 10 * 1) (200 + (100 * 1))) (9 + 10 * 1) 200) (10 + 10 * 1) 5000) (8 + 10 * 2) (200 + (100 * 2))) (9 + 10 * 2) 200) (10 + 10 * 2) 5000) ((fun _ => 0)) H13 := hL.d (w := 2) hμ (by decide) (by decide) rfl hH13 hkH13
  refine lv_iinc (v := 3) (lv' := [(9, .int (3)), (8, .ref (ln α 2)), (7, .ref (ln α 1)), (6, .ref (ln α 0)), (5, .ref (lm α 3)), (4, .ref (lm α 2)), (3, .ref (lm α 1)), (2, .ref (lm α 0)), (1, .ref (α 0)), (0, .ref b)]) hx hb dL_law_118 hl (k := 0) rfl rfl (by decide) rfl (fun ls hl => ?_)
  refine lv_goto (tgt := 72) hx hb dL_law_121 (by decide) ?_
  refine lv_iload hx hb dL_law_72 (lv_at hl 0 rfl) ?_
  refine lv_iconst (v := 3) hx hb dL_law_74 (by decide) ?_
  refine lv_icmp_ge (tgt := 124) hx hb dL_law_75 (by decide) (fun c4 => ?_) (fun c4 => absurd (by decide) c4)
  refine lv_iconst (v := 0) hx hb dL_law_124 (by decide) ?_
  refine lv_istore (lv' := [(9, .int 0), (8, .ref (ln α 2)), (7, .ref (ln α 1)), (6, .ref (ln α 0)), (5, .ref (lm α 3)), (4, .ref (lm α 2)), (3, .ref (lm α 1)), (2, .ref (lm α 0)), (1, .ref (α 0)), (0, .ref b)]) hx hb dL_law_125 hl (by decide) rfl (fun ls hl => ?_)
  refine lv_iload hx hb dL_law_127 (lv_at hl 0 rfl) ?_
  refine lv_iconst (v := 4) hx hb dL_law_129 (by decide) ?_
  refine lv_icmp_ge (tgt := 146) hx hb dL_law_130 (by decide) (fun c5 => absurd c5 (by decide)) (fun c5 => ?_)
  refine lv_aload_n hx hb dL_law_133 rfl (lv_at hl 6 rfl) ?_
  refine lv_iconst (v := 4) hx hb dL_law_134 (by decide) ?_
  refine lv_iload hx hb dL_law_135 (lv_at hl 0 rfl) ?_
  refine lv_iadd hx hb dL_law_137 ?_
  refine lv_iconst (v := 1) hx hb dL_law_138 (by decide) ?_
  refine dp_iast (A := fun q => s.heap.size ≤ q) hx hb hK hL.2.1 (hrg (104 + 1) (by decide)) hS 0 rfl (4 * 1 + 0) (by decide) (by have := ((by decide) : 0 < 4); omega) (by decide) dL_law_139 (fun H14 locs hH14 hzH14 hkH14 hS => ?_)
  replace hO := hO.ad (i := 1) hα (by decide) hkH14
  replace hL2 := hL2.ad2 (i := 1) hα (by decide) hkH14
  have hL : LB D G (lm α) (upd (upd (upd (upd (upd (upd (upd (upd (upd (upd (upd (upd (upd (upd ((fun _ => 0)) 0 3) 1 2) 2 10) 3 30) (8 + 10 * 0) (200 + (100 * 0))) (9 + 10 * 0) 200) (10 + 10 * 0) 5000) (8 + 10 * 1) (200 + (100 * 1))) (9 + 10 * 1) 200) (10 + 10 * 1) 5000) (8 + 10 * 2) (200 + (100 * 2))) (9 + 10 * 2) 200) (10 + 10 * 2) 5000) (39 + 3 * 0) 1) ((fun _ => 0)) H14 := hL.f (g := 1) hμ (by decide) (by decide) rfl hH14 hkH14
  refine lv_iinc (v := 1) (lv' := [(9, .int (1)), (8, .ref (ln α 2)), (7, .ref (ln α 1)), (6, .ref (ln α 0)), (5, .ref (lm α 3)), (4, .ref (lm α 2)), (3, .ref (lm α 1)), (2, .ref (lm α 0)), (1, .ref (α 0)), (0, .ref b)]) hx hb dL_law_140 hl (k := 0) rfl rfl (by decide) rfl (fun ls hl => ?_)
  refine lv_goto (tgt := 127) hx hb dL_law_143 (by decide) ?_
  refine lv_iload hx hb dL_law_127 (lv_at hl 0 rfl) ?_
  refine lv_iconst (v := 4) hx hb dL_law_129 (by decide) ?_
  refine lv_icmp_ge (tgt := 146) hx hb dL_law_130 (by decide) (fun c6 => absurd c6 (by decide)) (fun c6 => ?_)
  refine lv_aload_n hx hb dL_law_133 rfl (lv_at hl 6 rfl) ?_
  refine lv_iconst (v := 4) hx hb dL_law_134 (by decide) ?_
  refine lv_iload hx hb dL_law_135 (lv_at hl 0 rfl) ?_
  refine lv_iadd hx hb dL_law_137 ?_
  refine lv_iconst (v := 1) hx hb dL_law_138 (by decide) ?_
  refine dp_iast (A := fun q => s.heap.size ≤ q) hx hb hK hL.2.1 (hrg (104 + 1) (by decide)) hS 0 rfl (4 * 1 + 1) (by decide) (by have := ((by decide) : 1 < 4); omega) (by decide) dL_law_139 (fun H15 locs hH15 hzH15 hkH15 hS => ?_)
  replace hO := hO.ad (i := 1) hα (by decide) hkH15
  replace hL2 := hL2.ad2 (i := 1) hα (by decide) hkH15
  have hL : LB D G (lm α) (upd (upd (upd (upd (upd (upd (upd (upd (upd (upd (upd (upd (upd (upd (upd ((fun _ => 0)) 0 3) 1 2) 2 10) 3 30) (8 + 10 * 0) (200 + (100 * 0))) (9 + 10 * 0) 200) (10 + 10 * 0) 5000) (8 + 10 * 1) (200 + (100 * 1))) (9 + 10 * 1) 200) (10 + 10 * 1) 5000) (8 + 10 * 2) (200 + (100 * 2))) (9 + 10 * 2) 200) (10 + 10 * 2) 5000) (39 + 3 * 0) 1) (39 + 3 * 1) 1) ((fun _ => 0)) H15 := hL.f (g := 1) hμ (by decide) (by decide) rfl hH15 hkH15
  refine lv_iinc (v := 2) (lv' := [(9, .int (2)), (8, .ref (ln α 2)), (7, .ref (ln α 1)), (6, .ref (ln α 0)), (5, .ref (lm α 3)), (4, .ref (lm α 2)), (3, .ref (lm α 1)), (2, .ref (lm α 0)), (1, .ref (α 0)), (0, .ref b)]) hx hb dL_law_140 hl (k := 0) rfl rfl (by decide) rfl (fun ls hl => ?_)
  refine lv_goto (tgt := 127) hx hb dL_law_143 (by decide) ?_
  refine lv_iload hx hb dL_law_127 (lv_at hl 0 rfl) ?_
  refine lv_iconst (v := 4) hx hb dL_law_129 (by decide) ?_
  refine lv_icmp_ge (tgt := 146) hx hb dL_law_130 (by decide) (fun c7 => absurd c7 (by decide)) (fun c7 => ?_)
  refine lv_aload_n hx hb dL_law_133 rfl (lv_at hl 6 rfl) ?_
  refine lv_iconst (v := 4) hx hb dL_law_134 (by decide) ?_
  refine lv_iload hx hb dL_law_135 (lv_at hl 0 rfl) ?_
  refine lv_iadd hx hb dL_law_137 ?_
  refine lv_iconst (v := 1) hx hb dL_law_138 (by decide) ?_
  refine dp_iast (A := fun q => s.heap.size ≤ q) hx hb hK hL.2.1 (hrg (104 + 1) (by decide)) hS 0 rfl (4 * 1 + 2) (by decide) (by have := ((by decide) : 2 < 4); omega) (by decide) dL_law_139 (fun H16 locs hH16 hzH16 hkH16 hS => ?_)
  replace hO := hO.ad (i := 1) hα (by decide) hkH16
  replace hL2 := hL2.ad2 (i := 1) hα (by decide) hkH16
  have hL : LB D G (lm α) (upd (upd (upd (upd (upd (upd (upd (upd (upd (upd (upd (upd (upd (upd (upd (upd ((fun _ => 0)) 0 3) 1 2) 2 10) 3 30) (8 + 10 * 0) (200 + (100 * 0))) (9 + 10 * 0) 200) (10 + 10 * 0) 5000) (8 + 10 * 1) (200 + (100 * 1))) (9 + 10 * 1) 200) (10 + 10 * 1) 5000) (8 + 10 * 2) (200 + (100 * 2))) (9 + 10 * 2) 200) (10 + 10 * 2) 5000) (39 + 3 * 0) 1) (39 + 3 * 1) 1) (39 + 3 * 2) 1) ((fun _ => 0)) H16 := hL.f (g := 1) hμ (by decide) (by decide) rfl hH16 hkH16
  refine lv_iinc (v := 3) (lv' := [(9, .int (3)), (8, .ref (ln α 2)), (7, .ref (ln α 1)), (6, .ref (ln α 0)), (5, .ref (lm α 3)), (4, .ref (lm α 2)), (3, .ref (lm α 1)), (2, .ref (lm α 0)), (1, .ref (α 0)), (0, .ref b)]) hx hb dL_law_140 hl (k := 0) rfl rfl (by decide) rfl (fun ls hl => ?_)
  refine lv_goto (tgt := 127) hx hb dL_law_143 (by decide) ?_
  refine lv_iload hx hb dL_law_127 (lv_at hl 0 rfl) ?_
  refine lv_iconst (v := 4) hx hb dL_law_129 (by decide) ?_
  refine lv_icmp_ge (tgt := 146) hx hb dL_law_130 (by decide) (fun c8 => absurd c8 (by decide)) (fun c8 => ?_)
  refine lv_aload_n hx hb dL_law_133 rfl (lv_at hl 6 rfl) ?_
  refine lv_iconst (v := 4) hx hb dL_law_134 (by decide) ?_
  refine lv_iload hx hb dL_law_135 (lv_at hl 0 rfl) ?_
  refine lv_iadd hx hb dL_law_137 ?_
  refine lv_iconst (v := 1) hx hb dL_law_138 (by decide) ?_
  refine dp_iast (A := fun q => s.heap.size ≤ q) hx hb hK hL.2.1 (hrg (104 + 1) (by decide)) hS 0 rfl (4 * 1 + 3) (by decide) (by have := ((by decide) : 3 < 4); omega) (by decide) dL_law_139 (fun H17 locs hH17 hzH17 hkH17 hS => ?_)
  replace hO := hO.ad (i := 1) hα (by decide) hkH17
  replace hL2 := hL2.ad2 (i := 1) hα (by decide) hkH17
  have hL : LB D G (lm α) (upd (upd (upd (upd (upd (upd (upd (upd (upd (upd (upd (upd (upd (upd (upd (upd (upd ((fun _ => 0)) 0 3) 1 2) 2 10) 3 30) (8 + 10 * 0) (200 + (100 * 0))) (9 + 10 * 0) 200) (10 + 10 * 0) 5000) (8 + 10 * 1) (200 + (100 * 1))) (9 + 10 * 1) 200) (10 + 10 * 1) 5000) (8 + 10 * 2) (200 + (100 * 2))) (9 + 10 * 2) 200) (10 + 10 * 2) 5000) (39 + 3 * 0) 1) (39 + 3 * 1) 1) (39 + 3 * 2) 1) (39 + 3 * 3) 1) ((fun _ => 0)) H17 := hL.f (g := 1) hμ (by decide) (by decide) rfl hH17 hkH17
  refine lv_iinc (v := 4) (lv' := [(9, .int (4)), (8, .ref (ln α 2)), (7, .ref (ln α 1)), (6, .ref (ln α 0)), (5, .ref (lm α 3)), (4, .ref (lm α 2)), (3, .ref (lm α 1)), (2, .ref (lm α 0)), (1, .ref (α 0)), (0, .ref b)]) hx hb dL_law_140 hl (k := 0) rfl rfl (by decide) rfl (fun ls hl => ?_)
  refine lv_goto (tgt := 127) hx hb dL_law_143 (by decide) ?_
  refine lv_iload hx hb dL_law_127 (lv_at hl 0 rfl) ?_
  refine lv_iconst (v := 4) hx hb dL_law_129 (by decide) ?_
  refine lv_icmp_ge (tgt := 146) hx hb dL_law_130 (by decide) (fun c9 => ?_) (fun c9 => absurd (by decide) c9)
  replace hL : LB D G (lm α) r0 (fun _ => 0) H17 := hL.congr (by decide +kernel) (fun _ _ => rfl)
  refine lv_aload_n hx hb dL_law_146 rfl (lv_at hl 8 rfl) ?_
  refine lv_aload_n hx hb dL_law_147 rfl (lv_at hl 7 rfl) ?_
  refine lv_aload_n hx hb dL_law_148 rfl (lv_at hl 6 rfl) ?_
  refine lv_aload hx hb dL_law_149 (lv_at hl 5 rfl) ?_
  refine lv_aload hx hb dL_law_151 (lv_at hl 4 rfl) ?_
  refine dp_Si hF hK hN (c_L_isTold l D G α r0 (fun _ => 0) 0 _ hα hO hL r0_gw.1 r0_gw.2.1 r0_gw.2.2 r0_bud (by omega)) (va_cwS 5 hts gL_law_L_isTold rfl rfl rfl (by decide +kernel) ⟨Nat.le_of_ble_eq_true rfl, Nat.le_of_ble_eq_true rfl⟩) hS (at_ge hrg) [] rfl rfl hl.1 (Nat.le_of_ble_eq_true rfl) dL_law_153 ⟨Nat.le_of_ble_eq_true rfl, Nat.le_of_ble_eq_true rfl⟩ (fun rH18 H18 locs hp hzH18 hkH18 hS => ?_)
  obtain ⟨rfl, hO, hL⟩ := hp
  replace hL2 := hL2.mixT hα hL hkH18
  refine lv_istore (lv' := [(9, .int 1), (8, .ref (ln α 2)), (7, .ref (ln α 1)), (6, .ref (ln α 0)), (5, .ref (lm α 3)), (4, .ref (lm α 2)), (3, .ref (lm α 1)), (2, .ref (lm α 0)), (1, .ref (α 0)), (0, .ref b)]) hx hb dL_law_156 hl (by decide) rfl (fun ls hl => ?_)
  refine lv_iconst (v := 0) hx hb dL_law_158 (by decide) ?_
  refine lv_istore (lv' := [(10, .int 0), (9, .int 1), (8, .ref (ln α 2)), (7, .ref (ln α 1)), (6, .ref (ln α 0)), (5, .ref (lm α 3)), (4, .ref (lm α 2)), (3, .ref (lm α 1)), (2, .ref (lm α 0)), (1, .ref (α 0)), (0, .ref b)]) hx hb dL_law_159 hl (by decide) rfl (fun ls hl => ?_)
  exact law_loop hx hb hml hown hts hK hN hZ hX hbl hL9 α hα hrg fin (pwv r0) _ _ _ hS hO hL hL2 (lv_sub hl [10, 9, 8, 7, 6, 5, 4, 3, 2, 1, 0] rfl)
