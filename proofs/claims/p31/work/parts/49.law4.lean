set_option maxHeartbeats 600000 in
set_option maxRecDepth 100000 in
theorem c_L_copy (l : Launch) (D : va_G) (G : Nat → ClassId) (a1 b1 N : Nat) (X Y : Nat → Int32) (H : Heap) (ha : va_at D vwCl (a1, .inl (G 0, N, .inl X)) H) (hb1 : va_at D vwCl (b1, .inl (G 0, N, .inl Y)) H) (hne : a1 ≠ b1) (hNn : N < 2 ^ 31) : Met l yL_copy wsL_copy ({ frames := 0, cells := 0, slots := 0, locals := 0 } : Room) (va_Pc [.ref a1, .ref b1] (CX D G H)) (QV (fun q => q = b1) (fun h => va_at D vwCl (b1, .inl (G 0, N, .inl X)) h)) 0 0 ((fun q => q = b1)) := by
  refine Met.ofW (cc := cL_copy) (maxL := 3) (ret := none) (by decide) rfl ?_
  intro p e s m args below meth c s₁ B0 hml hv
  obtain ⟨rfl, rfl, hK, hN⟩ := hv
  have hx := B0.exec
  have hb := B0.bytes
  have hr := B0.returns
  have hts := atoms_spec (ws := wsL_copy) B0.pre
  have hown : s.vm.findClass RL = some m.cls := findClass_of_methodNamed B0.named
  have hlocks := B0.notSynchronized
  have hF : CallFix p m c cL_copy 3 s ([.ref a1, .ref b1] : List Value).toArray wsL_copy RL := ⟨hx, hb, hml, hown, hts⟩
  have hS : va_S ((fun q => q = b1)) s.heap s.heap [] := va_S.rf
  have hl := lv_entry ([.ref a1, .ref b1]) (n := 3) (Nat.le_of_ble_eq_true rfl)
  rw [lg_entry_eq]
  generalize (lg_sl ([.ref a1, .ref b1]) ++ List.replicate (3 - (lg_sl ([.ref a1, .ref b1])).length) Slot.unset).toArray = ls at hl ⊢
  have hl : lv_has ls 3 [(0, .ref a1), (1, .ref b1)] := hl
  refine lv_iconst (v := 0) hx hb dL_copy_0 (by decide) ?_
  refine lv_istore_n (lv' := [(2, .int 0), (0, .ref a1), (1, .ref b1)]) hx hb dL_copy_1 rfl hl (by decide) rfl (fun ls hl => ?_)
  have loop2 : ∀ (m9 : Nat) (i : Nat) (Hh : Heap) (_ : i + m9 = N) (_ : va_at D vwCl (a1, .inl (G 0, N, .inl X)) Hh) (_ : va_at D vwCl (b1, .inl (G 0, N, .inl (fst6 X Y i))) Hh) (locs : List Loc) (_ : va_S ((fun q => q = b1)) s.heap Hh locs) (ls : Array Slot) (_ : lv_has ls 3 [(0, .ref a1), (1, .ref b1), (2, .int (nI i))]), W p l e (headSpec wsL_copy ({ frames := 0, cells := 0, slots := 0, locals := 0 } : Room)).room s m ([.ref a1, .ref b1] : List Value).toArray below meth c Hh locs 0 0 (MQ below (QV (fun q => q = b1) (fun h => va_at D vwCl (b1, .inl (G 0, N, .inl X)) h)) ([.ref a1, .ref b1] : List Value).toArray s 0 0 ((fun q => q = b1))) (F0 m 2 ls []) := by
    intro m9
    induction m9 with
    | zero =>
      intro i Hh hin ha hb1 locs hS ls hl
      refine lv_iload_n hx hb dL_copy_2 rfl (lv_at hl 2 rfl) ?_
      refine lv_aload_n hx hb dL_copy_3 rfl (lv_at hl 0 rfl) ?_
      refine dp_alen hx hb hK ha 0 rfl dL_copy_4 ?_
      refine lv_icmp_ge (tgt := 20) hx hb dL_copy_5 (by decide) (fun c1 => ?_) (fun c1 => absurd (nI_le (a := N) (b := i) (by omega) (by omega)) c1)
      exact W.vret hx hb hr (fun t ht hW => ⟨⟨Hh, rfl, at_congr hb1 (fun j hj => fst6_e (by omega)), ht⟩, hS.F ht⟩) hS.2.2 dL_copy_20
    | succ m9 ih2 =>
      intro i Hh hin ha hb1 locs hS ls hl
      refine lv_iload_n hx hb dL_copy_2 rfl (lv_at hl 2 rfl) ?_
      refine lv_aload_n hx hb dL_copy_3 rfl (lv_at hl 0 rfl) ?_
      refine dp_alen hx hb hK ha 0 rfl dL_copy_4 ?_
      refine lv_icmp_ge (tgt := 20) hx hb dL_copy_5 (by decide) (fun c2 => absurd c2 (nI_ge (a := i) (b := N) (by omega) (by omega))) (fun c2 => ?_)
      refine lv_aload_n hx hb dL_copy_8 rfl (lv_at hl 1 rfl) ?_
      refine lv_iload_n hx hb dL_copy_9 rfl (lv_at hl 2 rfl) ?_
      refine lv_aload_n hx hb dL_copy_10 rfl (lv_at hl 0 rfl) ?_
      refine lv_iload_n hx hb dL_copy_11 rfl (lv_at hl 2 rfl) ?_
      refine dp_iald hx hb hK ha 0 rfl i rfl (by omega) hNn dL_copy_12 ?_
      refine dp_iast (A := fun q => q = b1) hx hb hK hb1 rfl hS 0 rfl i rfl (by omega) hNn dL_copy_13 (fun H1 locs hb1 hzH1 hkH1 hS => ?_)
      replace ha := ha.kept (hkH1 _ hne)
      refine lv_iinc (v := nI (i + 1)) (lv' := [(2, .int (nI (i + 1))), (0, .ref a1), (1, .ref b1)]) hx hb dL_copy_14 hl (k := 2) rfl (nI_1 i) (by decide) rfl (fun ls hl => ?_)
      refine lv_goto (tgt := 2) hx hb dL_copy_17 (by decide) ?_
      exact ih2 (i + 1) H1 (by omega) ha (by rw [← fst6_s]; exact hb1) _ hS _ (lv_sub hl [1, 2, 0] rfl)
  exact loop2 N 0 s.heap (Nat.zero_add N) ha (by rw [fst6_0]; exact hb1) _ hS _ (lv_sub hl [1, 2, 0] rfl)

set_option maxHeartbeats 600000 in
set_option maxRecDepth 100000 in
theorem c_L_isTold (l : Launch) (D : va_G) (G : Nat → ClassId) (α : Nat → Nat) (R P : Nat → Int32) (c9 : Nat) (H : Heap) (hα : inj 115 α) (hO : OB D G α R H) (hL : LB D G (lm α) R P H) (hg : gd R) (hph : ph R) (hen : en R) (hbu : bud R c9) (hbc : c9 < 1000000) : Met l yL_isTold wsL_isTold ({ frames := 6, cells := 0, slots := 0, locals := 136 } : Room) (va_Pc [.ref (α 0), .ref (lm α 0), .ref (lm α 1), .ref (lm α 2), .ref (lm α 3)] (CX D G H)) (QI (AT α) (fun r h => 1 = r ∧ OB D G α R h ∧ LB D G (lm α) R (pwv R) h)) 0 0 (AT α) := by
  refine Met.ofW (cc := cL_isTold) (maxL := 12) (ret := (some .boolean)) (by decide) rfl ?_
  intro p e s m args below meth c s₁ B0 hml hv
  obtain ⟨rfl, rfl, hK, hN⟩ := hv
  have hx := B0.exec
  have hb := B0.bytes
  have hr := B0.returns
  have hts := atoms_spec (ws := wsL_isTold) B0.pre
  have hown : s.vm.findClass RL = some m.cls := findClass_of_methodNamed B0.named
  have hlocks := B0.notSynchronized
  have hF : CallFix p m c cL_isTold 12 s ([.ref (α 0), .ref (lm α 0), .ref (lm α 1), .ref (lm α 2), .ref (lm α 3)] : List Value).toArray wsL_isTold RL := ⟨hx, hb, hml, hown, hts⟩
  have hS : va_S (AT α) s.heap s.heap [] := va_S.rf
  have hl := lv_entry ([.ref (α 0), .ref (lm α 0), .ref (lm α 1), .ref (lm α 2), .ref (lm α 3)]) (n := 12) (Nat.le_of_ble_eq_true rfl)
  rw [lg_entry_eq]
  generalize (lg_sl ([.ref (α 0), .ref (lm α 0), .ref (lm α 1), .ref (lm α 2), .ref (lm α 3)]) ++ List.replicate (12 - (lg_sl ([.ref (α 0), .ref (lm α 0), .ref (lm α 1), .ref (lm α 2), .ref (lm α 3)])).length) Slot.unset).toArray = ls at hl ⊢
  have hl : lv_has ls 12 [(0, .ref (α 0)), (1, .ref (lm α 0)), (2, .ref (lm α 1)), (3, .ref (lm α 2)), (4, .ref (lm α 3))] := hl
  have hμ := lm_inj hα
  refine lv_aload_n hx hb dL_isTold_0 rfl (lv_at hl 1 rfl) ?_
  refine lv_aload_n hx hb dL_isTold_1 rfl (lv_at hl 2 rfl) ?_
  refine lv_aload hx hb dL_isTold_2 (lv_at hl 4 rfl) ?_
  refine dp_Sv hF hK hN (c_L_powers l D G (lm α) R P  _ hμ hL hg) (va_cwS 3 hts gL_isTold_L_powers rfl rfl rfl (by decide +kernel) ⟨Nat.le_of_ble_eq_true rfl, Nat.le_of_ble_eq_true rfl⟩) hS lm_T [] rfl rfl hl.1 (Nat.le_of_ble_eq_true rfl) dL_isTold_4 ⟨Nat.le_of_ble_eq_true rfl, Nat.le_of_ble_eq_true rfl⟩ (fun H1 locs hp hzH1 hkH1 hS => ?_)
  replace hO := hO.km hα hkH1
  have h9L := hp
  replace hL := h9L
  refine lv_aload_n hx hb dL_isTold_7 rfl (lv_at hl 1 rfl) ?_
  refine lv_aload_n hx hb dL_isTold_8 rfl (lv_at hl 2 rfl) ?_
  refine dp_Si hF hK hN (c_L_frequency l D G (lm α) R (pwv R)  _ hμ hL hg) (va_cwS 2 hts gL_isTold_L_frequency rfl rfl rfl (by decide +kernel) ⟨Nat.le_of_ble_eq_true rfl, Nat.le_of_ble_eq_true rfl⟩) hS nA_i [] rfl rfl hl.1 (Nat.le_of_ble_eq_true rfl) dL_isTold_9 ⟨Nat.le_of_ble_eq_true rfl, Nat.le_of_ble_eq_true rfl⟩ (fun rH2 H2 locs hp hzH2 hkH2 hS => ?_)
  obtain ⟨rfl, rfl⟩ := hp
  refine lv_istore (lv' := [(5, .int (fq R)), (0, .ref (α 0)), (1, .ref (lm α 0)), (2, .ref (lm α 1)), (3, .ref (lm α 2)), (4, .ref (lm α 3))]) hx hb dL_isTold_12 hl (by decide) rfl (fun ls hl => ?_)
  refine lv_aload_n hx hb dL_isTold_14 rfl (lv_at hl 2 rfl) ?_
  refine lv_aload_n hx hb dL_isTold_15 rfl (lv_at hl 3 rfl) ?_
  refine dp_Si hF hK hN (c_L_load l D G (lm α) R (pwv R)  _ hμ hL hg) (va_cwS 2 hts gL_isTold_L_load rfl rfl rfl (by decide +kernel) ⟨Nat.le_of_ble_eq_true rfl, Nat.le_of_ble_eq_true rfl⟩) hS nA_i [] rfl rfl hl.1 (Nat.le_of_ble_eq_true rfl) dL_isTold_16 ⟨Nat.le_of_ble_eq_true rfl, Nat.le_of_ble_eq_true rfl⟩ (fun rH3 H3 locs hp hzH3 hkH3 hS => ?_)
  obtain ⟨rfl, rfl⟩ := hp
  refine lv_istore (lv' := [(6, .int (ld R)), (5, .int (fq R)), (0, .ref (α 0)), (1, .ref (lm α 0)), (2, .ref (lm α 1)), (3, .ref (lm α 2)), (4, .ref (lm α 3))]) hx hb dL_isTold_19 hl (by decide) rfl (fun ls hl => ?_)
  refine lv_aload_n hx hb dL_isTold_21 rfl (lv_at hl 2 rfl) ?_
  refine lv_iconst (v := 0) hx hb dL_isTold_22 (by decide) ?_
  refine dp_Vi hF hK hN (n_X5_count l D G α R 0 _ hα hO hg (by decide)) (cwV 1 hts gL_isTold_X5_count rfl rfl rfl (by decide +kernel) ⟨Nat.le_of_ble_eq_true rfl, Nat.le_of_ble_eq_true rfl⟩) (ob_recv hK hO) hS A5_T [] rfl rfl hl.1 (Nat.le_of_ble_eq_true rfl) dL_isTold_23 ⟨Nat.le_of_ble_eq_true rfl, Nat.le_of_ble_eq_true rfl⟩ (fun rH4 H4 locs hp hzH4 hkH4 hS => ?_)
  obtain ⟨rfl, h9O⟩ := hp
  replace hO := h9O
  replace hL := hL.o5 hα hkH4
  refine lv_aload_n hx hb dL_isTold_26 rfl (lv_at hl 5 rfl) ?_
  refine lv_iconst (v := 4) hx hb dL_isTold_27 (by decide) ?_
  refine dp_iald hx hb hK hL.2.2.1 0 rfl 4 rfl (by decide) (by decide) dL_isTold_28 ?_
  refine lv_icmp_ne (tgt := 198) hx hb dL_isTold_29 (by decide) (fun c1 => absurd c1 (fun q => q rfl)) (fun c1 => ?_)
  refine lv_aload_n hx hb dL_isTold_32 rfl (lv_at hl 2 rfl) ?_
  refine lv_iconst (v := 1) hx hb dL_isTold_33 (by decide) ?_
  refine dp_Vi hF hK hN (n_X5_count l D G α R 1 _ hα hO hg (by decide)) (cwV 1 hts gL_isTold_X5_count rfl rfl rfl (by decide +kernel) ⟨Nat.le_of_ble_eq_true rfl, Nat.le_of_ble_eq_true rfl⟩) (ob_recv hK hO) hS A5_T [] rfl rfl hl.1 (Nat.le_of_ble_eq_true rfl) dL_isTold_34 ⟨Nat.le_of_ble_eq_true rfl, Nat.le_of_ble_eq_true rfl⟩ (fun rH5 H5 locs hp hzH5 hkH5 hS => ?_)
  obtain ⟨rfl, h9O⟩ := hp
  replace hO := h9O
  replace hL := hL.o5 hα hkH5
  refine lv_iload hx hb dL_isTold_37 (lv_at hl 1 rfl) ?_
  refine lv_icmp_ne (tgt := 198) hx hb dL_isTold_39 (by decide) (fun c2 => absurd c2 (fun q => q rfl)) (fun c2 => ?_)
  refine lv_aload_n hx hb dL_isTold_42 rfl (lv_at hl 2 rfl) ?_
  refine lv_iconst (v := 2) hx hb dL_isTold_43 (by decide) ?_
  refine dp_Vi hF hK hN (n_X5_count l D G α R 2 _ hα hO hg (by decide)) (cwV 1 hts gL_isTold_X5_count rfl rfl rfl (by decide +kernel) ⟨Nat.le_of_ble_eq_true rfl, Nat.le_of_ble_eq_true rfl⟩) (ob_recv hK hO) hS A5_T [] rfl rfl hl.1 (Nat.le_of_ble_eq_true rfl) dL_isTold_44 ⟨Nat.le_of_ble_eq_true rfl, Nat.le_of_ble_eq_true rfl⟩ (fun rH6 H6 locs hp hzH6 hkH6 hS => ?_)
  obtain ⟨rfl, h9O⟩ := hp
  replace hO := h9O
  replace hL := hL.o5 hα hkH6
  refine lv_iload hx hb dL_isTold_47 (lv_at hl 1 rfl) ?_
  refine lv_icmp_ne (tgt := 198) hx hb dL_isTold_49 (by decide) (fun c3 => absurd c3 (fun q => q rfl)) (fun c3 => ?_)
  refine lv_aload_n hx hb dL_isTold_52 rfl (lv_at hl 2 rfl) ?_
  refine lv_iconst (v := 3) hx hb dL_isTold_53 (by decide) ?_
  refine dp_Vi hF hK hN (n_X5_count l D G α R 3 _ hα hO hg (by decide)) (cwV 1 hts gL_isTold_X5_count rfl rfl rfl (by decide +kernel) ⟨Nat.le_of_ble_eq_true rfl, Nat.le_of_ble_eq_true rfl⟩) (ob_recv hK hO) hS A5_T [] rfl rfl hl.1 (Nat.le_of_ble_eq_true rfl) dL_isTold_54 ⟨Nat.le_of_ble_eq_true rfl, Nat.le_of_ble_eq_true rfl⟩ (fun rH7 H7 locs hp hzH7 hkH7 hS => ?_)
  obtain ⟨rfl, h9O⟩ := hp
  replace hO := h9O
  replace hL := hL.o5 hα hkH7
  refine lv_iload hx hb dL_isTold_57 (lv_at hl 0 rfl) ?_
  refine lv_icmp_ne (tgt := 198) hx hb dL_isTold_59 (by decide) (fun c4 => absurd c4 (fun q => q rfl)) (fun c4 => ?_)
  refine lv_aload_n hx hb dL_isTold_62 rfl (lv_at hl 2 rfl) ?_
  refine lv_iconst (v := 4) hx hb dL_isTold_63 (by decide) ?_
  refine dp_Vi hF hK hN (n_X5_count l D G α R 4 _ hα hO hg (by decide)) (cwV 1 hts gL_isTold_X5_count rfl rfl rfl (by decide +kernel) ⟨Nat.le_of_ble_eq_true rfl, Nat.le_of_ble_eq_true rfl⟩) (ob_recv hK hO) hS A5_T [] rfl rfl hl.1 (Nat.le_of_ble_eq_true rfl) dL_isTold_64 ⟨Nat.le_of_ble_eq_true rfl, Nat.le_of_ble_eq_true rfl⟩ (fun rH8 H8 locs hp hzH8 hkH8 hS => ?_)
  obtain ⟨rfl, h9O⟩ := hp
  replace hO := h9O
  replace hL := hL.o5 hα hkH8
  refine lv_aload hx hb dL_isTold_67 (lv_at hl 6 rfl) ?_
  refine lv_iconst (v := 0) hx hb dL_isTold_69 (by decide) ?_
  refine dp_iald hx hb hK hL.2.2.2 0 rfl 0 rfl (by decide) (by decide) dL_isTold_70 ?_
  refine lv_aload hx hb dL_isTold_71 (lv_at hl 6 rfl) ?_
  refine lv_iconst (v := 1) hx hb dL_isTold_73 (by decide) ?_
  refine dp_iald hx hb hK hL.2.2.2 0 rfl 1 rfl (by decide) (by decide) dL_isTold_74 ?_
  refine lv_iadd hx hb dL_isTold_75 ?_
  refine lv_aload hx hb dL_isTold_76 (lv_at hl 6 rfl) ?_
  refine lv_iconst (v := 2) hx hb dL_isTold_78 (by decide) ?_
  refine dp_iald hx hb hK hL.2.2.2 0 rfl 2 rfl (by decide) (by decide) dL_isTold_79 ?_
  refine lv_iadd hx hb dL_isTold_80 ?_
  refine lv_icmp_ne (tgt := 198) hx hb dL_isTold_81 (by decide) (fun c5 => absurd c5 (fun q => q tc_4)) (fun c5 => ?_)
  refine lv_aload_n hx hb dL_isTold_84 rfl (lv_at hl 2 rfl) ?_
  refine lv_iconst (v := 4) hx hb dL_isTold_85 (by decide) ?_
  refine dp_Vi hF hK hN (n_X5_count l D G α R 4 _ hα hO hg (by decide)) (cwV 1 hts gL_isTold_X5_count rfl rfl rfl (by decide +kernel) ⟨Nat.le_of_ble_eq_true rfl, Nat.le_of_ble_eq_true rfl⟩) (ob_recv hK hO) hS A5_T [] rfl rfl hl.1 (Nat.le_of_ble_eq_true rfl) dL_isTold_86 ⟨Nat.le_of_ble_eq_true rfl, Nat.le_of_ble_eq_true rfl⟩ (fun rH9 H9 locs hp hzH9 hkH9 hS => ?_)
  obtain ⟨rfl, h9O⟩ := hp
  replace hO := h9O
  replace hL := hL.o5 hα hkH9
  refine lv_aload_n hx hb dL_isTold_89 rfl (lv_at hl 2 rfl) ?_
  refine lv_iconst (v := 5) hx hb dL_isTold_90 (by decide) ?_
  refine dp_Vi hF hK hN (n_X5_count l D G α R 5 _ hα hO hg (by decide)) (cwV 1 hts gL_isTold_X5_count rfl rfl rfl (by decide +kernel) ⟨Nat.le_of_ble_eq_true rfl, Nat.le_of_ble_eq_true rfl⟩) (ob_recv hK hO) hS A5_T [.int (tcnt R 0 (nI 4))] rfl rfl hl.1 (Nat.le_of_ble_eq_true rfl) dL_isTold_91 ⟨Nat.le_of_ble_eq_true rfl, Nat.le_of_ble_eq_true rfl⟩ (fun rH10 H10 locs hp hzH10 hkH10 hS => ?_)
  obtain ⟨rfl, h9O⟩ := hp
  replace hO := h9O
  replace hL := hL.o5 hα hkH10
  refine lv_iadd hx hb dL_isTold_94 ?_
  refine lv_iload hx hb dL_isTold_95 (lv_at hl 0 rfl) ?_
  refine lv_icmp_ne (tgt := 198) hx hb dL_isTold_97 (by decide) (fun c6 => absurd c6 (fun q => q (tc_45 hg))) (fun c6 => ?_)
  refine lv_aload_n hx hb dL_isTold_100 rfl (lv_at hl 2 rfl) ?_
  refine lv_iconst (v := 5) hx hb dL_isTold_101 (by decide) ?_
  refine dp_Vi hF hK hN (n_X5_count l D G α R 5 _ hα hO hg (by decide)) (cwV 1 hts gL_isTold_X5_count rfl rfl rfl (by decide +kernel) ⟨Nat.le_of_ble_eq_true rfl, Nat.le_of_ble_eq_true rfl⟩) (ob_recv hK hO) hS A5_T [] rfl rfl hl.1 (Nat.le_of_ble_eq_true rfl) dL_isTold_102 ⟨Nat.le_of_ble_eq_true rfl, Nat.le_of_ble_eq_true rfl⟩ (fun rH11 H11 locs hp hzH11 hkH11 hS => ?_)
  obtain ⟨rfl, h9O⟩ := hp
  replace hO := h9O
  replace hL := hL.o5 hα hkH11
  refine lv_aload hx hb dL_isTold_105 (lv_at hl 6 rfl) ?_
  refine lv_iconst (v := 3) hx hb dL_isTold_107 (by decide) ?_
  refine dp_iald hx hb hK hL.2.2.2 0 rfl 3 rfl (by decide) (by decide) dL_isTold_108 ?_
  refine lv_icmp_ne (tgt := 198) hx hb dL_isTold_109 (by decide) (fun c7 => absurd c7 (fun q => q tc_5)) (fun c7 => ?_)
  refine lv_aload_n hx hb dL_isTold_112 rfl (lv_at hl 2 rfl) ?_
  refine lv_bipush (v := 6) hx hb dL_isTold_113 (by decide) ?_
  refine dp_Vi hF hK hN (n_X5_count l D G α R 6 _ hα hO hg (by decide)) (cwV 1 hts gL_isTold_X5_count rfl rfl rfl (by decide +kernel) ⟨Nat.le_of_ble_eq_true rfl, Nat.le_of_ble_eq_true rfl⟩) (ob_recv hK hO) hS A5_T [] rfl rfl hl.1 (Nat.le_of_ble_eq_true rfl) dL_isTold_115 ⟨Nat.le_of_ble_eq_true rfl, Nat.le_of_ble_eq_true rfl⟩ (fun rH12 H12 locs hp hzH12 hkH12 hS => ?_)
  obtain ⟨rfl, h9O⟩ := hp
  replace hO := h9O
  replace hL := hL.o5 hα hkH12
  refine lv_aload_n hx hb dL_isTold_118 rfl (lv_at hl 3 rfl) ?_
  refine lv_iconst (v := 3) hx hb dL_isTold_119 (by decide) ?_
  refine ld_d hx hb hK hL.1 0 3 11 (by decide) (by decide) (by decide) rfl dL_isTold_120 ?_
  refine lv_aload_n hx hb dL_isTold_121 rfl (lv_at hl 3 rfl) ?_
  refine lv_bipush (v := 13) hx hb dL_isTold_122 (by decide) ?_
  refine ld_d hx hb hK hL.1 1 3 11 (by decide) (by decide) (by decide) rfl dL_isTold_124 ?_
  refine lv_iadd hx hb dL_isTold_125 ?_
  refine lv_aload_n hx hb dL_isTold_126 rfl (lv_at hl 3 rfl) ?_
  refine lv_bipush (v := 23) hx hb dL_isTold_127 (by decide) ?_
  refine ld_d hx hb hK hL.1 2 3 11 (by decide) (by decide) (by decide) rfl dL_isTold_129 ?_
  refine lv_iadd hx hb dL_isTold_130 ?_
  refine lv_icmp_ne (tgt := 198) hx hb dL_isTold_131 (by decide) (fun c8 => absurd c8 (fun q => q (tc_6 (gd_bz hg)))) (fun c8 => ?_)
  refine lv_aload_n hx hb dL_isTold_134 rfl (lv_at hl 2 rfl) ?_
  refine lv_bipush (v := 7) hx hb dL_isTold_135 (by decide) ?_
  refine dp_Vi hF hK hN (n_X5_count l D G α R 7 _ hα hO hg (by decide)) (cwV 1 hts gL_isTold_X5_count rfl rfl rfl (by decide +kernel) ⟨Nat.le_of_ble_eq_true rfl, Nat.le_of_ble_eq_true rfl⟩) (ob_recv hK hO) hS A5_T [] rfl rfl hl.1 (Nat.le_of_ble_eq_true rfl) dL_isTold_137 ⟨Nat.le_of_ble_eq_true rfl, Nat.le_of_ble_eq_true rfl⟩ (fun rH13 H13 locs hp hzH13 hkH13 hS => ?_)
  obtain ⟨rfl, h9O⟩ := hp
  replace hO := h9O
  replace hL := hL.o5 hα hkH13
  refine lv_aload_n hx hb dL_isTold_140 rfl (lv_at hl 3 rfl) ?_
  refine lv_iconst (v := 4) hx hb dL_isTold_141 (by decide) ?_
  refine ld_d hx hb hK hL.1 0 4 12 (by decide) (by decide) (by decide) rfl dL_isTold_142 ?_
  refine lv_aload_n hx hb dL_isTold_143 rfl (lv_at hl 3 rfl) ?_
  refine lv_bipush (v := 14) hx hb dL_isTold_144 (by decide) ?_
  refine ld_d hx hb hK hL.1 1 4 12 (by decide) (by decide) (by decide) rfl dL_isTold_146 ?_
  refine lv_iadd hx hb dL_isTold_147 ?_
  refine lv_aload_n hx hb dL_isTold_148 rfl (lv_at hl 3 rfl) ?_
  refine lv_bipush (v := 24) hx hb dL_isTold_149 (by decide) ?_
  refine ld_d hx hb hK hL.1 2 4 12 (by decide) (by decide) (by decide) rfl dL_isTold_151 ?_
  refine lv_iadd hx hb dL_isTold_152 ?_
  refine lv_icmp_ne (tgt := 198) hx hb dL_isTold_153 (by decide) (fun c9 => absurd c9 (fun q => q (tc_7 (gd_bz hg)))) (fun c9 => ?_)
  refine lv_aload_n hx hb dL_isTold_156 rfl (lv_at hl 2 rfl) ?_
  refine lv_bipush (v := 8) hx hb dL_isTold_157 (by decide) ?_
  refine dp_Vi hF hK hN (n_X5_count l D G α R 8 _ hα hO hg (by decide)) (cwV 1 hts gL_isTold_X5_count rfl rfl rfl (by decide +kernel) ⟨Nat.le_of_ble_eq_true rfl, Nat.le_of_ble_eq_true rfl⟩) (ob_recv hK hO) hS A5_T [] rfl rfl hl.1 (Nat.le_of_ble_eq_true rfl) dL_isTold_159 ⟨Nat.le_of_ble_eq_true rfl, Nat.le_of_ble_eq_true rfl⟩ (fun rH14 H14 locs hp hzH14 hkH14 hS => ?_)
  obtain ⟨rfl, h9O⟩ := hp
  replace hO := h9O
  replace hL := hL.o5 hα hkH14
  refine lv_aload_n hx hb dL_isTold_162 rfl (lv_at hl 5 rfl) ?_
  refine lv_iconst (v := 5) hx hb dL_isTold_163 (by decide) ?_
  refine dp_iald hx hb hK hL.2.2.1 0 rfl 5 rfl (by decide) (by decide) dL_isTold_164 ?_
  refine lv_icmp_ne (tgt := 198) hx hb dL_isTold_165 (by decide) (fun c10 => absurd c10 (fun q => q (tc_8 hg))) (fun c10 => ?_)
  refine lv_aload_n hx hb dL_isTold_168 rfl (lv_at hl 2 rfl) ?_
  refine lv_bipush (v := 9) hx hb dL_isTold_169 (by decide) ?_
  refine dp_Vi hF hK hN (n_X5_count l D G α R 9 _ hα hO hg (by decide)) (cwV 1 hts gL_isTold_X5_count rfl rfl rfl (by decide +kernel) ⟨Nat.le_of_ble_eq_true rfl, Nat.le_of_ble_eq_true rfl⟩) (ob_recv hK hO) hS A5_T [] rfl rfl hl.1 (Nat.le_of_ble_eq_true rfl) dL_isTold_171 ⟨Nat.le_of_ble_eq_true rfl, Nat.le_of_ble_eq_true rfl⟩ (fun rH15 H15 locs hp hzH15 hkH15 hS => ?_)
  obtain ⟨rfl, h9O⟩ := hp
  replace hO := h9O
  replace hL := hL.o5 hα hkH15
  refine lv_aload_n hx hb dL_isTold_174 rfl (lv_at hl 5 rfl) ?_
  refine lv_bipush (v := 6) hx hb dL_isTold_175 (by decide) ?_
  refine dp_iald hx hb hK hL.2.2.1 0 rfl 6 rfl (by decide) (by decide) dL_isTold_177 ?_
  refine lv_icmp_ne (tgt := 198) hx hb dL_isTold_178 (by decide) (fun c11 => absurd c11 (fun q => q (tc_9 hg))) (fun c11 => ?_)
  refine lv_aload_n hx hb dL_isTold_181 rfl (lv_at hl 2 rfl) ?_
  refine lv_bipush (v := 10) hx hb dL_isTold_182 (by decide) ?_
  refine dp_Vi hF hK hN (n_X5_count l D G α R 10 _ hα hO hg (by decide)) (cwV 1 hts gL_isTold_X5_count rfl rfl rfl (by decide +kernel) ⟨Nat.le_of_ble_eq_true rfl, Nat.le_of_ble_eq_true rfl⟩) (ob_recv hK hO) hS A5_T [] rfl rfl hl.1 (Nat.le_of_ble_eq_true rfl) dL_isTold_184 ⟨Nat.le_of_ble_eq_true rfl, Nat.le_of_ble_eq_true rfl⟩ (fun rH16 H16 locs hp hzH16 hkH16 hS => ?_)
  obtain ⟨rfl, h9O⟩ := hp
  replace hO := h9O
  replace hL := hL.o5 hα hkH16
  refine lv_aload_n hx hb dL_isTold_187 rfl (lv_at hl 5 rfl) ?_
  refine lv_bipush (v := 7) hx hb dL_isTold_188 (by decide) ?_
  refine dp_iald hx hb hK hL.2.2.1 0 rfl 7 rfl (by decide) (by decide) dL_isTold_190 ?_
  refine lv_icmp_ne (tgt := 198) hx hb dL_isTold_191 (by decide) (fun c12 => absurd c12 (fun q => q rfl)) (fun c12 => ?_)
  refine lv_iconst (v := 1) hx hb dL_isTold_194 (by decide) ?_
  refine lv_goto (tgt := 199) hx hb dL_isTold_195 (by decide) ?_
  refine lv_istore (lv' := [(7, .int 1), (6, .int (ld R)), (5, .int (fq R)), (0, .ref (α 0)), (1, .ref (lm α 0)), (2, .ref (lm α 1)), (3, .ref (lm α 2)), (4, .ref (lm α 3))]) hx hb dL_isTold_199 hl (by decide) rfl (fun ls hl => ?_)
  refine lv_iconst (v := 0) hx hb dL_isTold_201 (by decide) ?_
  refine lv_istore (lv' := [(8, .int 0), (7, .int 1), (6, .int (ld R)), (5, .int (fq R)), (0, .ref (α 0)), (1, .ref (lm α 0)), (2, .ref (lm α 1)), (3, .ref (lm α 2)), (4, .ref (lm α 3))]) hx hb dL_isTold_202 hl (by decide) rfl (fun ls hl => ?_)
  refine lv_iconst (v := 0) hx hb dL_isTold_204 (by decide) ?_
  refine lv_istore (lv' := [(9, .int 0), (8, .int 0), (7, .int 1), (6, .int (ld R)), (5, .int (fq R)), (0, .ref (α 0)), (1, .ref (lm α 0)), (2, .ref (lm α 1)), (3, .ref (lm α 2)), (4, .ref (lm α 3))]) hx hb dL_isTold_205 hl (by decide) rfl (fun ls hl => ?_)
  have loop207 : ∀ (m9 : Nat) (i : Nat) (ra : Int32) (Hh : Heap) (_ : i + m9 = 3) (_ : ra = rat R i) (_ : OB D G α R Hh) (_ : LB D G (lm α) R (pwv R) Hh) (locs : List Loc) (_ : va_S (AT α) s.heap Hh locs) (ls : Array Slot) (_ : lv_has ls 12 [(0, .ref (α 0)), (1, .ref (lm α 0)), (2, .ref (lm α 1)), (3, .ref (lm α 2)), (4, .ref (lm α 3)), (5, .int (fq R)), (6, .int (ld R)), (7, .int 1), (8, .int ra), (9, .int (nI i))]), W p l e (headSpec wsL_isTold ({ frames := 6, cells := 0, slots := 0, locals := 136 } : Room)).room s m ([.ref (α 0), .ref (lm α 0), .ref (lm α 1), .ref (lm α 2), .ref (lm α 3)] : List Value).toArray below meth c Hh locs 0 0 (MQ below (QI (AT α) (fun r h => 1 = r ∧ OB D G α R h ∧ LB D G (lm α) R (pwv R) h)) ([.ref (α 0), .ref (lm α 0), .ref (lm α 1), .ref (lm α 2), .ref (lm α 3)] : List Value).toArray s 0 0 (AT α)) (F0 m 207 ls []) := by
    intro m9
    induction m9 with
    | zero =>
      intro i ra Hh hin hra hO hL locs hS ls hl
      refine lv_iload hx hb dL_isTold_207 (lv_at hl 9 rfl) ?_
      refine lv_iconst (v := 3) hx hb dL_isTold_209 (by decide) ?_
      refine lv_icmp_ge (tgt := 447) hx hb dL_isTold_210 (by decide) (fun c13 => ?_) (fun c13 => absurd (nI_le (a := 3) (b := i) (by omega) (by omega)) c13)
      refine lv_iconst (v := 0) hx hb dL_isTold_447 (by decide) ?_
      refine lv_istore (lv' := [(9, .int 0), (0, .ref (α 0)), (1, .ref (lm α 0)), (2, .ref (lm α 1)), (3, .ref (lm α 2)), (4, .ref (lm α 3)), (5, .int (fq R)), (6, .int (ld R)), (7, .int 1), (8, .int ra)]) hx hb dL_isTold_448 hl (by decide) rfl (fun ls hl => ?_)
      have hi3 : i = 3 := by omega
      rw [hi3] at hra
      have loop450 : ∀ (m7 : Nat) (k : Nat) (Hk : Heap) (_ : k + m7 = 4) (_ : OB D G α R Hk) (_ : LB D G (lm α) R (pwv R) Hk) (locs : List Loc) (_ : va_S (AT α) s.heap Hk locs) (ls : Array Slot) (_ : lv_has ls 12 [(0, .ref (α 0)), (1, .ref (lm α 0)), (2, .ref (lm α 1)), (3, .ref (lm α 2)), (4, .ref (lm α 3)), (5, .int (fq R)), (6, .int (ld R)), (7, .int 1), (8, .int ra), (9, .int (nI k))]), W p l e (headSpec wsL_isTold ({ frames := 6, cells := 0, slots := 0, locals := 136 } : Room)).room s m ([.ref (α 0), .ref (lm α 0), .ref (lm α 1), .ref (lm α 2), .ref (lm α 3)] : List Value).toArray below meth c Hk locs 0 0 (MQ below (QI (AT α) (fun r h => 1 = r ∧ OB D G α R h ∧ LB D G (lm α) R (pwv R) h)) ([.ref (α 0), .ref (lm α 0), .ref (lm α 1), .ref (lm α 2), .ref (lm α 3)] : List Value).toArray s 0 0 (AT α)) (F0 m 450 ls []) := by
        intro m7
        induction m7 with
        | zero =>
          intro k Hk hk7 hO hL locs hS ls hl
          refine lv_iload hx hb dL_isTold_450 (lv_at hl 9 rfl) ?_
          refine lv_iconst (v := 4) hx hb dL_isTold_452 (by decide) ?_
          refine lv_icmp_ge (tgt := 534) hx hb dL_isTold_453 (by decide) (fun c14 => ?_) (fun c14 => absurd (nI_le (a := 4) (b := k) (by omega) (by omega)) c14)
          refine lv_iload hx hb dL_isTold_534 (lv_at hl 7 rfl) ?_
          refine lv_if_eq (tgt := 588) hx hb dL_isTold_536 (by decide) (fun c15 => absurd c15 (by decide)) (fun c15 => ?_)
          refine lv_aload_n hx hb dL_isTold_539 rfl (lv_at hl 1 rfl) ?_
          refine lv_bipush (v := 8) hx hb dL_isTold_540 (by decide) ?_
          refine ld_d hx hb hK hL.1 0 8 16 (by decide) (by decide) (by decide) rfl dL_isTold_542 ?_
          refine lv_aload_n hx hb dL_isTold_543 rfl (lv_at hl 1 rfl) ?_
          refine lv_bipush (v := 18) hx hb dL_isTold_544 (by decide) ?_
          refine ld_d hx hb hK hL.1 1 8 16 (by decide) (by decide) (by decide) rfl dL_isTold_546 ?_
          refine lv_iadd hx hb dL_isTold_547 ?_
          refine lv_aload_n hx hb dL_isTold_548 rfl (lv_at hl 1 rfl) ?_
          refine lv_bipush (v := 28) hx hb dL_isTold_549 (by decide) ?_
          refine ld_d hx hb hK hL.1 2 8 16 (by decide) (by decide) (by decide) rfl dL_isTold_551 ?_
          refine lv_iadd hx hb dL_isTold_552 ?_
          refine lv_aload_n hx hb dL_isTold_553 rfl (lv_at hl 3 rfl) ?_
          refine lv_bipush (v := 7) hx hb dL_isTold_554 (by decide) ?_
          refine dp_iald hx hb hK hL.2.2.1 0 rfl 7 rfl (by decide) (by decide) dL_isTold_556 ?_
          refine lv_icmp_ne (tgt := 588) hx hb dL_isTold_557 (by decide) (fun c16 => absurd c16 (fun q => q hen)) (fun c16 => ?_)
          refine lv_aload_n hx hb dL_isTold_560 rfl (lv_at hl 0 rfl) ?_
          have h9O := hO
          obtain ⟨RS, kp, sv, n, F, len, hn6, hl6, w, RT, hw, hD⟩ := h9O
          refine dp_Vd hF hK hN (c_X5_loadShare l D G α w R RT RS kp sv n F len _ hα hw hD (gd_bz hg) (gd_mono hg) hn6 hl6 (gd_fd hg)) (cwV 0 hts gL_isTold_X5_loadShare rfl rfl rfl (by decide +kernel) ⟨Nat.le_of_ble_eq_true rfl, Nat.le_of_ble_eq_true rfl⟩) (dp_recv hK hD.1 rfl) hS nA_i [] rfl rfl hl.1 (Nat.le_of_ble_eq_true rfl) dL_isTold_561 ⟨Nat.le_of_ble_eq_true rfl, Nat.le_of_ble_eq_true rfl⟩ (fun rH17 H17 locs hp hzH17 hkH17 hS => ?_)
          obtain ⟨rfl, rfl⟩ := hp
          refine lv_iload hx hb dL_isTold_564 (lv_at hl 8 rfl) ?_
          refine lv_if_ne (tgt := 573) hx hb dL_isTold_566 (by decide) (fun c17 => ?_) (fun c17 => ?_)
          · refine lv_iload hx hb dL_isTold_573 (lv_at hl 6 rfl) ?_
            refine lv_i2d hx hb dL_isTold_575 ?_
            refine lv_iload hx hb dL_isTold_576 (lv_at hl 8 rfl) ?_
            refine lv_i2d hx hb dL_isTold_578 ?_
            refine lv_ddiv hx hb dL_isTold_579 (by rw [hra]; exact gd_fd hg (by rw [← hra]; exact c17)) ?_
            refine lv_dcmp hx hb dL_isTold_580 ?_
            refine lv_if_ne (tgt := 588) hx hb dL_isTold_581 (by decide) (fun c18 => absurd c18 (fun q => q (by rw [ls_e c17 hra]; exact okD_c (gd_okD hg)))) (fun c18 => ?_)
            refine lv_iconst (v := 1) hx hb dL_isTold_584 (by decide) ?_
            refine lv_goto (tgt := 589) hx hb dL_isTold_585 (by decide) ?_
            refine lv_istore (lv' := [(7, .int 1), (0, .ref (α 0)), (1, .ref (lm α 0)), (2, .ref (lm α 1)), (3, .ref (lm α 2)), (4, .ref (lm α 3)), (5, .int (fq R)), (6, .int (ld R)), (8, .int ra), (9, .int (nI k))]) hx hb dL_isTold_589 hl (by decide) rfl (fun ls hl => ?_)
            refine lv_iload hx hb dL_isTold_591 (lv_at hl 0 rfl) ?_
            refine lv_if_eq (tgt := 628) hx hb dL_isTold_593 (by decide) (fun c19 => absurd c19 (by decide)) (fun c19 => ?_)
            refine lv_aload_n hx hb dL_isTold_596 rfl (lv_at hl 1 rfl) ?_
            have h9O := hO
            obtain ⟨RS, kp, sv, n, F, len, hn6, hl6, w, RT, hw, hD⟩ := h9O
            refine dp_Vf hF hK hN (c_X5_meanPower l D G α w R RT RS kp sv n F len _ hα hw hD (gd_bz hg) (gd_mono hg) hn6 hl6 (bud_fd hbu hbc)) (cwV 0 hts gL_isTold_X5_meanPower rfl rfl rfl (by decide +kernel) ⟨Nat.le_of_ble_eq_true rfl, Nat.le_of_ble_eq_true rfl⟩) (dp_recv hK hD.1 rfl) hS nA_i [] rfl rfl hl.1 (Nat.le_of_ble_eq_true rfl) dL_isTold_597 ⟨Nat.le_of_ble_eq_true rfl, Nat.le_of_ble_eq_true rfl⟩ (fun rH18 H18 locs hp hzH18 hkH18 hS => ?_)
            obtain ⟨rfl, rfl⟩ := hp
            refine lv_aload_n hx hb dL_isTold_600 rfl (lv_at hl 4 rfl) ?_
            refine lv_iconst (v := 4) hx hb dL_isTold_601 (by decide) ?_
            refine dp_iald hx hb hK hL.2.2.1 0 rfl 4 rfl (by decide) (by decide) dL_isTold_602 ?_
            refine lv_if_ne (tgt := 610) hx hb dL_isTold_603 (by decide) (fun c20 => ?_) (fun c20 => ?_)
            · refine lv_aload_n hx hb dL_isTold_610 rfl (lv_at hl 4 rfl) ?_
              refine lv_bipush (v := 7) hx hb dL_isTold_611 (by decide) ?_
              refine dp_iald hx hb hK hL.2.2.1 0 rfl 7 rfl (by decide) (by decide) dL_isTold_613 ?_
              refine lv_i2f hx hb dL_isTold_614 ?_
              refine lv_aload_n hx hb dL_isTold_615 rfl (lv_at hl 4 rfl) ?_
              refine lv_iconst (v := 4) hx hb dL_isTold_616 (by decide) ?_
              refine dp_iald hx hb hK hL.2.2.1 0 rfl 4 rfl (by decide) (by decide) dL_isTold_617 ?_
              refine lv_i2f hx hb dL_isTold_618 ?_
              refine lv_fdiv hx hb dL_isTold_619 (bud_fd hbu hbc c20) ?_
              refine lv_fcmp hx hb dL_isTold_620 ?_
              refine lv_if_ne (tgt := 628) hx hb dL_isTold_621 (by decide) (fun c21 => absurd c21 (fun q => q (by rw [mp_e c20]; exact okF_c (okF_of hbu hbc)))) (fun c21 => ?_)
              refine lv_iconst (v := 1) hx hb dL_isTold_624 (by decide) ?_
              refine lv_goto (tgt := 629) hx hb dL_isTold_625 (by decide) ?_
              exact W.zret (ty := .boolean) hx hb hr rfl (fun t ht hW => ⟨⟨1, Hk, rfl, ⟨rfl, hO, hL⟩, ht⟩, hS.F ht⟩) hS.2.2 dL_isTold_629
            refine lv_fconst0 hx hb dL_isTold_606 ?_
            refine lv_goto (tgt := 620) hx hb dL_isTold_607 (by decide) ?_
            refine lv_fcmp hx hb dL_isTold_620 ?_
            refine lv_if_ne (tgt := 628) hx hb dL_isTold_621 (by decide) (fun c22 => absurd c22 (fun q => q (by rw [mp_0 c20]; exact okF_c (okF_of hbu hbc)))) (fun c22 => ?_)
            refine lv_iconst (v := 1) hx hb dL_isTold_624 (by decide) ?_
            refine lv_goto (tgt := 629) hx hb dL_isTold_625 (by decide) ?_
            exact W.zret (ty := .boolean) hx hb hr rfl (fun t ht hW => ⟨⟨1, Hk, rfl, ⟨rfl, hO, hL⟩, ht⟩, hS.F ht⟩) hS.2.2 dL_isTold_629
          refine lv_dconst0 hx hb dL_isTold_569 ?_
          refine lv_goto (tgt := 580) hx hb dL_isTold_570 (by decide) ?_
          refine lv_dcmp hx hb dL_isTold_580 ?_
          refine lv_if_ne (tgt := 588) hx hb dL_isTold_581 (by decide) (fun c23 => absurd c23 (fun q => q (by rw [ls_0 c17 hra]; exact okD_c (gd_okD hg)))) (fun c23 => ?_)
          refine lv_iconst (v := 1) hx hb dL_isTold_584 (by decide) ?_
          refine lv_goto (tgt := 589) hx hb dL_isTold_585 (by decide) ?_
          refine lv_istore (lv' := [(7, .int 1), (0, .ref (α 0)), (1, .ref (lm α 0)), (2, .ref (lm α 1)), (3, .ref (lm α 2)), (4, .ref (lm α 3)), (5, .int (fq R)), (6, .int (ld R)), (8, .int ra), (9, .int (nI k))]) hx hb dL_isTold_589 hl (by decide) rfl (fun ls hl => ?_)
          refine lv_iload hx hb dL_isTold_591 (lv_at hl 0 rfl) ?_
          refine lv_if_eq (tgt := 628) hx hb dL_isTold_593 (by decide) (fun c24 => absurd c24 (by decide)) (fun c24 => ?_)
          refine lv_aload_n hx hb dL_isTold_596 rfl (lv_at hl 1 rfl) ?_
          have h9O := hO
          obtain ⟨RS, kp, sv, n, F, len, hn6, hl6, w, RT, hw, hD⟩ := h9O
          refine dp_Vf hF hK hN (c_X5_meanPower l D G α w R RT RS kp sv n F len _ hα hw hD (gd_bz hg) (gd_mono hg) hn6 hl6 (bud_fd hbu hbc)) (cwV 0 hts gL_isTold_X5_meanPower rfl rfl rfl (by decide +kernel) ⟨Nat.le_of_ble_eq_true rfl, Nat.le_of_ble_eq_true rfl⟩) (dp_recv hK hD.1 rfl) hS nA_i [] rfl rfl hl.1 (Nat.le_of_ble_eq_true rfl) dL_isTold_597 ⟨Nat.le_of_ble_eq_true rfl, Nat.le_of_ble_eq_true rfl⟩ (fun rH19 H19 locs hp hzH19 hkH19 hS => ?_)
          obtain ⟨rfl, rfl⟩ := hp
          refine lv_aload_n hx hb dL_isTold_600 rfl (lv_at hl 4 rfl) ?_
          refine lv_iconst (v := 4) hx hb dL_isTold_601 (by decide) ?_
          refine dp_iald hx hb hK hL.2.2.1 0 rfl 4 rfl (by decide) (by decide) dL_isTold_602 ?_
          refine lv_if_ne (tgt := 610) hx hb dL_isTold_603 (by decide) (fun c25 => ?_) (fun c25 => ?_)
          · refine lv_aload_n hx hb dL_isTold_610 rfl (lv_at hl 4 rfl) ?_
            refine lv_bipush (v := 7) hx hb dL_isTold_611 (by decide) ?_
            refine dp_iald hx hb hK hL.2.2.1 0 rfl 7 rfl (by decide) (by decide) dL_isTold_613 ?_
            refine lv_i2f hx hb dL_isTold_614 ?_
            refine lv_aload_n hx hb dL_isTold_615 rfl (lv_at hl 4 rfl) ?_
            refine lv_iconst (v := 4) hx hb dL_isTold_616 (by decide) ?_
            refine dp_iald hx hb hK hL.2.2.1 0 rfl 4 rfl (by decide) (by decide) dL_isTold_617 ?_
            refine lv_i2f hx hb dL_isTold_618 ?_
            refine lv_fdiv hx hb dL_isTold_619 (bud_fd hbu hbc c25) ?_
            refine lv_fcmp hx hb dL_isTold_620 ?_
            refine lv_if_ne (tgt := 628) hx hb dL_isTold_621 (by decide) (fun c26 => absurd c26 (fun q => q (by rw [mp_e c25]; exact okF_c (okF_of hbu hbc)))) (fun c26 => ?_)
            refine lv_iconst (v := 1) hx hb dL_isTold_624 (by decide) ?_
            refine lv_goto (tgt := 629) hx hb dL_isTold_625 (by decide) ?_
            exact W.zret (ty := .boolean) hx hb hr rfl (fun t ht hW => ⟨⟨1, Hk, rfl, ⟨rfl, hO, hL⟩, ht⟩, hS.F ht⟩) hS.2.2 dL_isTold_629
          refine lv_fconst0 hx hb dL_isTold_606 ?_
          refine lv_goto (tgt := 620) hx hb dL_isTold_607 (by decide) ?_
          refine lv_fcmp hx hb dL_isTold_620 ?_
          refine lv_if_ne (tgt := 628) hx hb dL_isTold_621 (by decide) (fun c27 => absurd c27 (fun q => q (by rw [mp_0 c25]; exact okF_c (okF_of hbu hbc)))) (fun c27 => ?_)
          refine lv_iconst (v := 1) hx hb dL_isTold_624 (by decide) ?_
          refine lv_goto (tgt := 629) hx hb dL_isTold_625 (by decide) ?_
          exact W.zret (ty := .boolean) hx hb hr rfl (fun t ht hW => ⟨⟨1, Hk, rfl, ⟨rfl, hO, hL⟩, ht⟩, hS.F ht⟩) hS.2.2 dL_isTold_629
        | succ m7 ih450 =>
          intro k Hk hk7 hO hL locs hS ls hl
          refine lv_iload hx hb dL_isTold_450 (lv_at hl 9 rfl) ?_
          refine lv_iconst (v := 4) hx hb dL_isTold_452 (by decide) ?_
          refine lv_icmp_ge (tgt := 534) hx hb dL_isTold_453 (by decide) (fun c28 => absurd c28 (nI_ge (a := k) (b := 4) (by omega) (by omega))) (fun c28 => ?_)
          refine lv_iload hx hb dL_isTold_456 (lv_at hl 7 rfl) ?_
          refine lv_if_eq (tgt := 525) hx hb dL_isTold_458 (by decide) (fun c29 => absurd c29 (by decide)) (fun c29 => ?_)
          refine lv_aload_n hx hb dL_isTold_461 rfl (lv_at hl 0 rfl) ?_
          refine lv_iload hx hb dL_isTold_462 (lv_at hl 9 rfl) ?_
          refine lv_iconst (v := 0) hx hb dL_isTold_464 (by decide) ?_
          refine dp_Vi hF hK hN (n_X5_line l D G α R k 0 _ hα hO hg (by omega) (by decide)) (cwV 2 hts gL_isTold_X5_line rfl rfl rfl (by decide +kernel) ⟨Nat.le_of_ble_eq_true rfl, Nat.le_of_ble_eq_true rfl⟩) (ob_recv hK hO) hS A5_T [] rfl rfl hl.1 (Nat.le_of_ble_eq_true rfl) dL_isTold_465 ⟨Nat.le_of_ble_eq_true rfl, Nat.le_of_ble_eq_true rfl⟩ (fun rH20 H20 locs hp hzH20 hkH20 hS => ?_)
          obtain ⟨rfl, h9O⟩ := hp
          replace hO := h9O
          replace hL := hL.o5 hα hkH20
          refine lv_aload_n hx hb dL_isTold_468 rfl (lv_at hl 2 rfl) ?_
          refine lv_iload hx hb dL_isTold_469 (lv_at hl 9 rfl) ?_
          refine ld_f hx hb hK hL.2.1 k 0 38 (congrArg nI (by omega)) (by omega) (by decide) rfl dL_isTold_471 ?_
          refine lv_icmp_ne (tgt := 525) hx hb dL_isTold_472 (by decide) (fun c30 => absurd c30 (fun q => q rfl)) (fun c30 => ?_)
          refine lv_aload_n hx hb dL_isTold_475 rfl (lv_at hl 0 rfl) ?_
          refine lv_iload hx hb dL_isTold_476 (lv_at hl 9 rfl) ?_
          refine lv_iconst (v := 1) hx hb dL_isTold_478 (by decide) ?_
          refine dp_Vi hF hK hN (n_X5_line l D G α R k 1 _ hα hO hg (by omega) (by decide)) (cwV 2 hts gL_isTold_X5_line rfl rfl rfl (by decide +kernel) ⟨Nat.le_of_ble_eq_true rfl, Nat.le_of_ble_eq_true rfl⟩) (ob_recv hK hO) hS A5_T [] rfl rfl hl.1 (Nat.le_of_ble_eq_true rfl) dL_isTold_479 ⟨Nat.le_of_ble_eq_true rfl, Nat.le_of_ble_eq_true rfl⟩ (fun rH21 H21 locs hp hzH21 hkH21 hS => ?_)
          obtain ⟨rfl, h9O⟩ := hp
          replace hO := h9O
          replace hL := hL.o5 hα hkH21
          refine lv_aload_n hx hb dL_isTold_482 rfl (lv_at hl 2 rfl) ?_
          refine lv_iconst (v := 4) hx hb dL_isTold_483 (by decide) ?_
          refine lv_iload hx hb dL_isTold_484 (lv_at hl 9 rfl) ?_
          refine lv_iadd hx hb dL_isTold_486 ?_
          rw [show (4 : Int32) + nI k = nI (4 + k) from nI_add 4 k]
          refine ld_f hx hb hK hL.2.1 k 1 39 (congrArg nI (by omega)) (by omega) (by decide) rfl dL_isTold_487 ?_
          refine lv_icmp_ne (tgt := 525) hx hb dL_isTold_488 (by decide) (fun c31 => absurd c31 (fun q => q (tf_1 (gd_bz hg) (by omega)))) (fun c31 => ?_)
          refine lv_aload_n hx hb dL_isTold_491 rfl (lv_at hl 0 rfl) ?_
          refine lv_iload hx hb dL_isTold_492 (lv_at hl 9 rfl) ?_
          refine lv_iconst (v := 2) hx hb dL_isTold_494 (by decide) ?_
          refine dp_Vi hF hK hN (n_X5_line l D G α R k 2 _ hα hO hg (by omega) (by decide)) (cwV 2 hts gL_isTold_X5_line rfl rfl rfl (by decide +kernel) ⟨Nat.le_of_ble_eq_true rfl, Nat.le_of_ble_eq_true rfl⟩) (ob_recv hK hO) hS A5_T [] rfl rfl hl.1 (Nat.le_of_ble_eq_true rfl) dL_isTold_495 ⟨Nat.le_of_ble_eq_true rfl, Nat.le_of_ble_eq_true rfl⟩ (fun rH22 H22 locs hp hzH22 hkH22 hS => ?_)
          obtain ⟨rfl, h9O⟩ := hp
          replace hO := h9O
          replace hL := hL.o5 hα hkH22
          refine lv_aload_n hx hb dL_isTold_498 rfl (lv_at hl 2 rfl) ?_
          refine lv_bipush (v := 8) hx hb dL_isTold_499 (by decide) ?_
          refine lv_iload hx hb dL_isTold_501 (lv_at hl 9 rfl) ?_
          refine lv_iadd hx hb dL_isTold_503 ?_
          rw [show (8 : Int32) + nI k = nI (8 + k) from nI_add 8 k]
          refine ld_f hx hb hK hL.2.1 k 2 40 (congrArg nI (by omega)) (by omega) (by decide) rfl dL_isTold_504 ?_
          refine lv_icmp_ne (tgt := 525) hx hb dL_isTold_505 (by decide) (fun c32 => absurd c32 (fun q => q rfl)) (fun c32 => ?_)
          refine lv_aload_n hx hb dL_isTold_508 rfl (lv_at hl 0 rfl) ?_
          refine lv_iload hx hb dL_isTold_509 (lv_at hl 9 rfl) ?_
          refine dp_Vi hF hK hN (n_X5_setting l D G α R k _ hα hO hg (by omega)) (cwV 1 hts gL_isTold_X5_setting rfl rfl rfl (by decide +kernel) ⟨Nat.le_of_ble_eq_true rfl, Nat.le_of_ble_eq_true rfl⟩) (ob_recv hK hO) hS A5_T [] rfl rfl hl.1 (Nat.le_of_ble_eq_true rfl) dL_isTold_511 ⟨Nat.le_of_ble_eq_true rfl, Nat.le_of_ble_eq_true rfl⟩ (fun rH23 H23 locs hp hzH23 hkH23 hS => ?_)
          obtain ⟨rfl, h9O⟩ := hp
          replace hO := h9O
          replace hL := hL.o5 hα hkH23
          refine lv_aload_n hx hb dL_isTold_514 rfl (lv_at hl 3 rfl) ?_
          refine lv_iload hx hb dL_isTold_515 (lv_at hl 9 rfl) ?_
          refine dp_iald hx hb hK hL.2.2.1 0 rfl k rfl (by omega) (by decide) dL_isTold_517 ?_
          refine lv_icmp_ne (tgt := 525) hx hb dL_isTold_518 (by decide) (fun c33 => absurd c33 (fun q => q rfl)) (fun c33 => ?_)
          refine lv_iconst (v := 1) hx hb dL_isTold_521 (by decide) ?_
          refine lv_goto (tgt := 526) hx hb dL_isTold_522 (by decide) ?_
          refine lv_istore (lv' := [(7, .int 1), (0, .ref (α 0)), (1, .ref (lm α 0)), (2, .ref (lm α 1)), (3, .ref (lm α 2)), (4, .ref (lm α 3)), (5, .int (fq R)), (6, .int (ld R)), (8, .int ra), (9, .int (nI k))]) hx hb dL_isTold_526 hl (by decide) rfl (fun ls hl => ?_)
          refine lv_iinc (v := nI (k + 1)) (lv' := [(9, .int (nI (k + 1))), (7, .int 1), (0, .ref (α 0)), (1, .ref (lm α 0)), (2, .ref (lm α 1)), (3, .ref (lm α 2)), (4, .ref (lm α 3)), (5, .int (fq R)), (6, .int (ld R)), (8, .int ra)]) hx hb dL_isTold_528 hl (k := 9) rfl (nI_1 k) (by decide) rfl (fun ls hl => ?_)
          refine lv_goto (tgt := 450) hx hb dL_isTold_531 (by decide) ?_
          exact ih450 (k + 1) H23 (by omega) hO hL _ hS _ (lv_sub hl [2, 3, 4, 5, 6, 7, 8, 1, 9, 0] rfl)
      exact loop450 4 0 Hh rfl hO hL _ hS _ (lv_sub hl [1, 2, 3, 4, 5, 6, 7, 8, 9, 0] rfl)
    | succ m9 ih207 =>
      intro i ra Hh hin hra hO hL locs hS ls hl
      refine lv_iload hx hb dL_isTold_207 (lv_at hl 9 rfl) ?_
      refine lv_iconst (v := 3) hx hb dL_isTold_209 (by decide) ?_
      refine lv_icmp_ge (tgt := 447) hx hb dL_isTold_210 (by decide) (fun c34 => absurd c34 (nI_ge (a := i) (b := 3) (by omega) (by omega))) (fun c34 => ?_)
      refine lv_iload hx hb dL_isTold_213 (lv_at hl 7 rfl) ?_
      refine lv_if_eq (tgt := 447) hx hb dL_isTold_215 (by decide) (fun c35 => absurd c35 (by decide)) (fun c35 => ?_)
      refine lv_bipush (v := 10) hx hb dL_isTold_218 (by decide) ?_
      refine lv_iload hx hb dL_isTold_220 (lv_at hl 9 rfl) ?_
      refine lv_imul hx hb dL_isTold_222 ?_
      rw [show (10 : Int32) * nI i = nI (10 * i) from pk_mul 10 i]
      refine lv_istore (lv' := [(10, .int (nI (10 * i))), (0, .ref (α 0)), (1, .ref (lm α 0)), (2, .ref (lm α 1)), (3, .ref (lm α 2)), (4, .ref (lm α 3)), (5, .int (fq R)), (6, .int (ld R)), (7, .int 1), (8, .int ra), (9, .int (nI i))]) hx hb dL_isTold_223 hl (by decide) rfl (fun ls hl => ?_)
      refine lv_iload hx hb dL_isTold_225 (lv_at hl 9 rfl) ?_
      refine lv_aload_n hx hb dL_isTold_227 rfl (lv_at hl 2 rfl) ?_
      refine lv_iload hx hb dL_isTold_228 (lv_at hl 0 rfl) ?_
      refine lv_iconst (v := 4) hx hb dL_isTold_230 (by decide) ?_
      refine lv_iadd hx hb dL_isTold_231 ?_
      rw [show nI (10 * i) + (4 : Int32) = nI (10 * i + 4) from nI_add (10 * i) 4]
      refine ld_d hx hb hK hL.1 i 4 12 rfl (by omega) (by decide) rfl dL_isTold_232 ?_
      refine lv_aload_n hx hb dL_isTold_233 rfl (lv_at hl 2 rfl) ?_
      refine lv_iload hx hb dL_isTold_234 (lv_at hl 0 rfl) ?_
      refine ld_d hx hb hK hL.1 i 0 8 rfl (by omega) (by decide) rfl dL_isTold_236 ?_
      refine lv_imul hx hb dL_isTold_237 ?_
      refine lv_iadd hx hb dL_isTold_238 ?_
      refine lv_istore (lv' := [(8, .int (ra + ((R (12 + 10 * i)) * (R (8 + 10 * i))))), (10, .int (nI (10 * i))), (0, .ref (α 0)), (1, .ref (lm α 0)), (2, .ref (lm α 1)), (3, .ref (lm α 2)), (4, .ref (lm α 3)), (5, .int (fq R)), (6, .int (ld R)), (7, .int 1), (9, .int (nI i))]) hx hb dL_isTold_239 hl (by decide) rfl (fun ls hl => ?_)
      refine lv_iconst (v := 0) hx hb dL_isTold_241 (by decide) ?_
      refine lv_istore (lv' := [(11, .int 0), (8, .int (ra + ((R (12 + 10 * i)) * (R (8 + 10 * i))))), (10, .int (nI (10 * i))), (0, .ref (α 0)), (1, .ref (lm α 0)), (2, .ref (lm α 1)), (3, .ref (lm α 2)), (4, .ref (lm α 3)), (5, .int (fq R)), (6, .int (ld R)), (7, .int 1), (9, .int (nI i))]) hx hb dL_isTold_242 hl (by decide) rfl (fun ls hl => ?_)
      have loop244 : ∀ (m8 : Nat) (w9 : Nat) (Hw : Heap) (_ : w9 + m8 = 5) (_ : OB D G α R Hw) (_ : LB D G (lm α) R (pwv R) Hw) (locs : List Loc) (_ : va_S (AT α) s.heap Hw locs) (ls : Array Slot) (_ : lv_has ls 12 [(0, .ref (α 0)), (1, .ref (lm α 0)), (2, .ref (lm α 1)), (3, .ref (lm α 2)), (4, .ref (lm α 3)), (5, .int (fq R)), (6, .int (ld R)), (7, .int 1), (8, .int (ra + ((R (12 + 10 * i)) * (R (8 + 10 * i))))), (9, .int (nI i)), (10, .int (nI (10 * i))), (11, .int (nI w9))]), W p l e (headSpec wsL_isTold ({ frames := 6, cells := 0, slots := 0, locals := 136 } : Room)).room s m ([.ref (α 0), .ref (lm α 0), .ref (lm α 1), .ref (lm α 2), .ref (lm α 3)] : List Value).toArray below meth c Hw locs 0 0 (MQ below (QI (AT α) (fun r h => 1 = r ∧ OB D G α R h ∧ LB D G (lm α) R (pwv R) h)) ([.ref (α 0), .ref (lm α 0), .ref (lm α 1), .ref (lm α 2), .ref (lm α 3)] : List Value).toArray s 0 0 (AT α)) (F0 m 244 ls []) := by
        intro m8
        induction m8 with
        | zero =>
          intro w9 Hw hw9 hO hL locs hS ls hl
          refine lv_iload hx hb dL_isTold_244 (lv_at hl 11 rfl) ?_
          refine lv_iconst (v := 5) hx hb dL_isTold_246 (by decide) ?_
          refine lv_icmp_ge (tgt := 286) hx hb dL_isTold_247 (by decide) (fun c36 => ?_) (fun c36 => absurd (nI_le (a := 5) (b := w9) (by omega) (by omega)) c36)
          refine lv_iload hx hb dL_isTold_286 (lv_at hl 7 rfl) ?_
          refine lv_if_eq (tgt := 438) hx hb dL_isTold_288 (by decide) (fun c37 => absurd c37 (by decide)) (fun c37 => ?_)
          refine lv_aload_n hx hb dL_isTold_291 rfl (lv_at hl 0 rfl) ?_
          refine lv_iload hx hb dL_isTold_292 (lv_at hl 9 rfl) ?_
          refine lv_iconst (v := 5) hx hb dL_isTold_294 (by decide) ?_
          refine dp_Vi hF hK hN (n_X5_diesel l D G α R i 5 _ hα hO hg (by omega) (by decide)) (cwV 2 hts gL_isTold_X5_diesel rfl rfl rfl (by decide +kernel) ⟨Nat.le_of_ble_eq_true rfl, Nat.le_of_ble_eq_true rfl⟩) (ob_recv hK hO) hS A5_T [] rfl rfl hl.1 (Nat.le_of_ble_eq_true rfl) dL_isTold_295 ⟨Nat.le_of_ble_eq_true rfl, Nat.le_of_ble_eq_true rfl⟩ (fun rH24 H24 locs hp hzH24 hkH24 hS => ?_)
          obtain ⟨rfl, h9O⟩ := hp
          replace hO := h9O
          replace hL := hL.o5 hα hkH24
          refine lv_aload hx hb dL_isTold_298 (lv_at hl 4 rfl) ?_
          refine lv_iload hx hb dL_isTold_300 (lv_at hl 9 rfl) ?_
          refine dp_iald hx hb hK hL.2.2.2 0 rfl i rfl (by omega) (by decide) dL_isTold_302 ?_
          refine lv_icmp_ne (tgt := 438) hx hb dL_isTold_303 (by decide) (fun c38 => absurd c38 (fun q => q (tset_5 (by omega)))) (fun c38 => ?_)
          refine lv_aload_n hx hb dL_isTold_306 rfl (lv_at hl 0 rfl) ?_
          refine lv_iload hx hb dL_isTold_307 (lv_at hl 9 rfl) ?_
          refine lv_bipush (v := 6) hx hb dL_isTold_309 (by decide) ?_
          refine dp_Vi hF hK hN (n_X5_diesel l D G α R i 6 _ hα hO hg (by omega) (by decide)) (cwV 2 hts gL_isTold_X5_diesel rfl rfl rfl (by decide +kernel) ⟨Nat.le_of_ble_eq_true rfl, Nat.le_of_ble_eq_true rfl⟩) (ob_recv hK hO) hS A5_T [] rfl rfl hl.1 (Nat.le_of_ble_eq_true rfl) dL_isTold_311 ⟨Nat.le_of_ble_eq_true rfl, Nat.le_of_ble_eq_true rfl⟩ (fun rH25 H25 locs hp hzH25 hkH25 hS => ?_)
          obtain ⟨rfl, h9O⟩ := hp
          replace hO := h9O
          replace hL := hL.o5 hα hkH25
          refine lv_aload_n hx hb dL_isTold_314 rfl (lv_at hl 1 rfl) ?_
          refine lv_iload hx hb dL_isTold_315 (lv_at hl 10 rfl) ?_
          refine lv_iconst (v := 5) hx hb dL_isTold_317 (by decide) ?_
          refine lv_iadd hx hb dL_isTold_318 ?_
          rw [show nI (10 * i) + (5 : Int32) = nI (10 * i + 5) from nI_add (10 * i) 5]
          refine ld_d hx hb hK hL.1 i 5 13 rfl (by omega) (by decide) rfl dL_isTold_319 ?_
          refine lv_icmp_ne (tgt := 438) hx hb dL_isTold_320 (by decide) (fun c39 => absurd c39 (fun q => q rfl)) (fun c39 => ?_)
          refine lv_aload_n hx hb dL_isTold_323 rfl (lv_at hl 0 rfl) ?_
          refine lv_iload hx hb dL_isTold_324 (lv_at hl 9 rfl) ?_
          refine lv_bipush (v := 7) hx hb dL_isTold_326 (by decide) ?_
          refine dp_Vi hF hK hN (n_X5_diesel l D G α R i 7 _ hα hO hg (by omega) (by decide)) (cwV 2 hts gL_isTold_X5_diesel rfl rfl rfl (by decide +kernel) ⟨Nat.le_of_ble_eq_true rfl, Nat.le_of_ble_eq_true rfl⟩) (ob_recv hK hO) hS A5_T [] rfl rfl hl.1 (Nat.le_of_ble_eq_true rfl) dL_isTold_328 ⟨Nat.le_of_ble_eq_true rfl, Nat.le_of_ble_eq_true rfl⟩ (fun rH26 H26 locs hp hzH26 hkH26 hS => ?_)
          obtain ⟨rfl, h9O⟩ := hp
          replace hO := h9O
          replace hL := hL.o5 hα hkH26
          refine lv_aload_n hx hb dL_isTold_331 rfl (lv_at hl 1 rfl) ?_
          refine lv_iload hx hb dL_isTold_332 (lv_at hl 10 rfl) ?_
          refine lv_iconst (v := 5) hx hb dL_isTold_334 (by decide) ?_
          refine lv_iadd hx hb dL_isTold_335 ?_
          rw [show nI (10 * i) + (5 : Int32) = nI (10 * i + 5) from nI_add (10 * i) 5]
          refine ld_d hx hb hK hL.1 i 5 13 rfl (by omega) (by decide) rfl dL_isTold_336 ?_
          refine dp_Si hF hK hN (c_L_lamps l D G (R (13 + 10 * i)) _) (va_cwS 1 hts gL_isTold_L_lamps rfl rfl rfl (by decide +kernel) ⟨Nat.le_of_ble_eq_true rfl, Nat.le_of_ble_eq_true rfl⟩) hS nA_i [.int (tset R i 7)] rfl rfl hl.1 (Nat.le_of_ble_eq_true rfl) dL_isTold_337 ⟨Nat.le_of_ble_eq_true rfl, Nat.le_of_ble_eq_true rfl⟩ (fun rH27 H27 locs hp hzH27 hkH27 hS => ?_)
          obtain ⟨rfl, rfl⟩ := hp
          refine lv_icmp_ne (tgt := 438) hx hb dL_isTold_340 (by decide) (fun c40 => absurd c40 (fun q => q (tset_7 hph (by omega)))) (fun c40 => ?_)
          refine lv_aload_n hx hb dL_isTold_343 rfl (lv_at hl 0 rfl) ?_
          refine lv_iload hx hb dL_isTold_344 (lv_at hl 9 rfl) ?_
          refine lv_bipush (v := 8) hx hb dL_isTold_346 (by decide) ?_
          refine dp_Vi hF hK hN (n_X5_diesel l D G α R i 8 _ hα hO hg (by omega) (by decide)) (cwV 2 hts gL_isTold_X5_diesel rfl rfl rfl (by decide +kernel) ⟨Nat.le_of_ble_eq_true rfl, Nat.le_of_ble_eq_true rfl⟩) (ob_recv hK hO) hS A5_T [] rfl rfl hl.1 (Nat.le_of_ble_eq_true rfl) dL_isTold_348 ⟨Nat.le_of_ble_eq_true rfl, Nat.le_of_ble_eq_true rfl⟩ (fun rH28 H28 locs hp hzH28 hkH28 hS => ?_)
          obtain ⟨rfl, h9O⟩ := hp
          replace hO := h9O
          replace hL := hL.o5 hα hkH28
          refine lv_aload_n hx hb dL_isTold_351 rfl (lv_at hl 1 rfl) ?_
          refine lv_iload hx hb dL_isTold_352 (lv_at hl 10 rfl) ?_
          refine lv_bipush (v := 6) hx hb dL_isTold_354 (by decide) ?_
          refine lv_iadd hx hb dL_isTold_356 ?_
          rw [show nI (10 * i) + (6 : Int32) = nI (10 * i + 6) from nI_add (10 * i) 6]
          refine ld_d hx hb hK hL.1 i 6 14 rfl (by omega) (by decide) rfl dL_isTold_357 ?_
          refine lv_icmp_ne (tgt := 438) hx hb dL_isTold_358 (by decide) (fun c41 => absurd c41 (fun q => q rfl)) (fun c41 => ?_)
          refine lv_aload_n hx hb dL_isTold_361 rfl (lv_at hl 0 rfl) ?_
          refine lv_iload hx hb dL_isTold_362 (lv_at hl 9 rfl) ?_
          refine lv_bipush (v := 9) hx hb dL_isTold_364 (by decide) ?_
          refine dp_Vi hF hK hN (n_X5_diesel l D G α R i 9 _ hα hO hg (by omega) (by decide)) (cwV 2 hts gL_isTold_X5_diesel rfl rfl rfl (by decide +kernel) ⟨Nat.le_of_ble_eq_true rfl, Nat.le_of_ble_eq_true rfl⟩) (ob_recv hK hO) hS A5_T [] rfl rfl hl.1 (Nat.le_of_ble_eq_true rfl) dL_isTold_366 ⟨Nat.le_of_ble_eq_true rfl, Nat.le_of_ble_eq_true rfl⟩ (fun rH29 H29 locs hp hzH29 hkH29 hS => ?_)
          obtain ⟨rfl, h9O⟩ := hp
          replace hO := h9O
          replace hL := hL.o5 hα hkH29
          refine lv_aload_n hx hb dL_isTold_369 rfl (lv_at hl 1 rfl) ?_
          refine lv_iload hx hb dL_isTold_370 (lv_at hl 10 rfl) ?_
          refine lv_bipush (v := 7) hx hb dL_isTold_372 (by decide) ?_
          refine lv_iadd hx hb dL_isTold_374 ?_
          rw [show nI (10 * i) + (7 : Int32) = nI (10 * i + 7) from nI_add (10 * i) 7]
          refine ld_d hx hb hK hL.1 i 7 15 rfl (by omega) (by decide) rfl dL_isTold_375 ?_
          refine lv_icmp_ne (tgt := 438) hx hb dL_isTold_376 (by decide) (fun c42 => absurd c42 (fun q => q rfl)) (fun c42 => ?_)
          refine lv_aload_n hx hb dL_isTold_379 rfl (lv_at hl 0 rfl) ?_
          refine lv_iload hx hb dL_isTold_380 (lv_at hl 9 rfl) ?_
          refine lv_bipush (v := 10) hx hb dL_isTold_382 (by decide) ?_
          refine dp_Vi hF hK hN (n_X5_diesel l D G α R i 10 _ hα hO hg (by omega) (by decide)) (cwV 2 hts gL_isTold_X5_diesel rfl rfl rfl (by decide +kernel) ⟨Nat.le_of_ble_eq_true rfl, Nat.le_of_ble_eq_true rfl⟩) (ob_recv hK hO) hS A5_T [] rfl rfl hl.1 (Nat.le_of_ble_eq_true rfl) dL_isTold_384 ⟨Nat.le_of_ble_eq_true rfl, Nat.le_of_ble_eq_true rfl⟩ (fun rH30 H30 locs hp hzH30 hkH30 hS => ?_)
          obtain ⟨rfl, h9O⟩ := hp
          replace hO := h9O
          replace hL := hL.o5 hα hkH30
          refine lv_aload_n hx hb dL_isTold_387 rfl (lv_at hl 1 rfl) ?_
          refine lv_iload hx hb dL_isTold_388 (lv_at hl 10 rfl) ?_
          refine lv_bipush (v := 8) hx hb dL_isTold_390 (by decide) ?_
          refine lv_iadd hx hb dL_isTold_392 ?_
          rw [show nI (10 * i) + (8 : Int32) = nI (10 * i + 8) from nI_add (10 * i) 8]
          refine ld_d hx hb hK hL.1 i 8 16 rfl (by omega) (by decide) rfl dL_isTold_393 ?_
          refine lv_icmp_ne (tgt := 438) hx hb dL_isTold_394 (by decide) (fun c43 => absurd c43 (fun q => q rfl)) (fun c43 => ?_)
          refine lv_aload_n hx hb dL_isTold_397 rfl (lv_at hl 0 rfl) ?_
          refine lv_iload hx hb dL_isTold_398 (lv_at hl 9 rfl) ?_
          refine lv_bipush (v := 11) hx hb dL_isTold_400 (by decide) ?_
          refine dp_Vi hF hK hN (n_X5_diesel l D G α R i 11 _ hα hO hg (by omega) (by decide)) (cwV 2 hts gL_isTold_X5_diesel rfl rfl rfl (by decide +kernel) ⟨Nat.le_of_ble_eq_true rfl, Nat.le_of_ble_eq_true rfl⟩) (ob_recv hK hO) hS A5_T [] rfl rfl hl.1 (Nat.le_of_ble_eq_true rfl) dL_isTold_402 ⟨Nat.le_of_ble_eq_true rfl, Nat.le_of_ble_eq_true rfl⟩ (fun rH31 H31 locs hp hzH31 hkH31 hS => ?_)
          obtain ⟨rfl, h9O⟩ := hp
          replace hO := h9O
          replace hL := hL.o5 hα hkH31
          refine lv_aload_n hx hb dL_isTold_405 rfl (lv_at hl 1 rfl) ?_
          refine lv_iload hx hb dL_isTold_406 (lv_at hl 10 rfl) ?_
          refine lv_bipush (v := 9) hx hb dL_isTold_408 (by decide) ?_
          refine lv_iadd hx hb dL_isTold_410 ?_
          rw [show nI (10 * i) + (9 : Int32) = nI (10 * i + 9) from nI_add (10 * i) 9]
          refine ld_d hx hb hK hL.1 i 9 17 rfl (by omega) (by decide) rfl dL_isTold_411 ?_
          refine lv_icmp_ne (tgt := 438) hx hb dL_isTold_412 (by decide) (fun c44 => absurd c44 (fun q => q rfl)) (fun c44 => ?_)
          refine lv_aload_n hx hb dL_isTold_415 rfl (lv_at hl 0 rfl) ?_
          refine lv_iload hx hb dL_isTold_416 (lv_at hl 9 rfl) ?_
          refine lv_bipush (v := 12) hx hb dL_isTold_418 (by decide) ?_
          refine dp_Vi hF hK hN (n_X5_diesel l D G α R i 12 _ hα hO hg (by omega) (by decide)) (cwV 2 hts gL_isTold_X5_diesel rfl rfl rfl (by decide +kernel) ⟨Nat.le_of_ble_eq_true rfl, Nat.le_of_ble_eq_true rfl⟩) (ob_recv hK hO) hS A5_T [] rfl rfl hl.1 (Nat.le_of_ble_eq_true rfl) dL_isTold_420 ⟨Nat.le_of_ble_eq_true rfl, Nat.le_of_ble_eq_true rfl⟩ (fun rH32 H32 locs hp hzH32 hkH32 hS => ?_)
          obtain ⟨rfl, h9O⟩ := hp
          replace hO := h9O
          replace hL := hL.o5 hα hkH32
          refine lv_aload_n hx hb dL_isTold_423 rfl (lv_at hl 1 rfl) ?_
          refine lv_aload_n hx hb dL_isTold_424 rfl (lv_at hl 2 rfl) ?_
          refine lv_aload_n hx hb dL_isTold_425 rfl (lv_at hl 3 rfl) ?_
          refine lv_iload hx hb dL_isTold_426 (lv_at hl 9 rfl) ?_
          refine dp_Si hF hK hN (c_L_why l D G (lm α) R (pwv R) i _ hμ hL hg (by omega) hph) (va_cwS 4 hts gL_isTold_L_why rfl rfl rfl (by decide +kernel) ⟨Nat.le_of_ble_eq_true rfl, Nat.le_of_ble_eq_true rfl⟩) hS nA_i [.int (tset R i 12)] rfl rfl hl.1 (Nat.le_of_ble_eq_true rfl) dL_isTold_428 ⟨Nat.le_of_ble_eq_true rfl, Nat.le_of_ble_eq_true rfl⟩ (fun rH33 H33 locs hp hzH33 hkH33 hS => ?_)
          obtain ⟨rfl, rfl⟩ := hp
          refine lv_icmp_ne (tgt := 438) hx hb dL_isTold_431 (by decide) (fun c45 => absurd c45 (fun q => q rfl)) (fun c45 => ?_)
          refine lv_iconst (v := 1) hx hb dL_isTold_434 (by decide) ?_
          refine lv_goto (tgt := 439) hx hb dL_isTold_435 (by decide) ?_
          refine lv_istore (lv' := [(7, .int 1), (0, .ref (α 0)), (1, .ref (lm α 0)), (2, .ref (lm α 1)), (3, .ref (lm α 2)), (4, .ref (lm α 3)), (5, .int (fq R)), (6, .int (ld R)), (8, .int (ra + ((R (12 + 10 * i)) * (R (8 + 10 * i))))), (9, .int (nI i)), (10, .int (nI (10 * i))), (11, .int (nI w9))]) hx hb dL_isTold_439 hl (by decide) rfl (fun ls hl => ?_)
          refine lv_iinc (v := nI (i + 1)) (lv' := [(9, .int (nI (i + 1))), (7, .int 1), (0, .ref (α 0)), (1, .ref (lm α 0)), (2, .ref (lm α 1)), (3, .ref (lm α 2)), (4, .ref (lm α 3)), (5, .int (fq R)), (6, .int (ld R)), (8, .int (ra + ((R (12 + 10 * i)) * (R (8 + 10 * i))))), (10, .int (nI (10 * i))), (11, .int (nI w9))]) hx hb dL_isTold_441 hl (k := 9) rfl (nI_1 i) (by decide) rfl (fun ls hl => ?_)
          refine lv_goto (tgt := 207) hx hb dL_isTold_444 (by decide) ?_
          exact ih207 (i + 1) (ra + ((R (12 + 10 * i)) * (R (8 + 10 * i)))) H32 (by omega) (by rw [hra]; exact it_rat hg (by omega)) hO hL _ hS _ (lv_sub hl [2, 3, 4, 5, 6, 7, 8, 1, 9, 0] rfl)
        | succ m8 ih244 =>
          intro w9 Hw hw9 hO hL locs hS ls hl
          refine lv_iload hx hb dL_isTold_244 (lv_at hl 11 rfl) ?_
          refine lv_iconst (v := 5) hx hb dL_isTold_246 (by decide) ?_
          refine lv_icmp_ge (tgt := 286) hx hb dL_isTold_247 (by decide) (fun c46 => absurd c46 (nI_ge (a := w9) (b := 5) (by omega) (by omega))) (fun c46 => ?_)
          refine lv_iload hx hb dL_isTold_250 (lv_at hl 7 rfl) ?_
          refine lv_if_eq (tgt := 277) hx hb dL_isTold_252 (by decide) (fun c47 => absurd c47 (by decide)) (fun c47 => ?_)
          refine lv_aload_n hx hb dL_isTold_255 rfl (lv_at hl 0 rfl) ?_
          refine lv_iload hx hb dL_isTold_256 (lv_at hl 9 rfl) ?_
          refine lv_iload hx hb dL_isTold_258 (lv_at hl 11 rfl) ?_
          refine dp_Vi hF hK hN (n_X5_diesel l D G α R i (nI w9) _ hα hO hg (by omega) ⟨nI_pos (by omega), nI_nlt (a := 12) (b := w9) (by omega) (by decide)⟩) (cwV 2 hts gL_isTold_X5_diesel rfl rfl rfl (by decide +kernel) ⟨Nat.le_of_ble_eq_true rfl, Nat.le_of_ble_eq_true rfl⟩) (ob_recv hK hO) hS A5_T [] rfl rfl hl.1 (Nat.le_of_ble_eq_true rfl) dL_isTold_260 ⟨Nat.le_of_ble_eq_true rfl, Nat.le_of_ble_eq_true rfl⟩ (fun rH34 H34 locs hp hzH34 hkH34 hS => ?_)
          obtain ⟨rfl, h9O⟩ := hp
          replace hO := h9O
          replace hL := hL.o5 hα hkH34
          refine lv_aload_n hx hb dL_isTold_263 rfl (lv_at hl 1 rfl) ?_
          refine lv_iload hx hb dL_isTold_264 (lv_at hl 10 rfl) ?_
          refine lv_iload hx hb dL_isTold_266 (lv_at hl 11 rfl) ?_
          refine lv_iadd hx hb dL_isTold_268 ?_
          rw [show nI (10 * i) + nI w9 = nI (10 * i + w9) from nI_add (10 * i) w9]
          refine ld_d hx hb hK hL.1 i w9 (8 + w9) rfl (by omega) (show w9 < 10 by omega) rfl dL_isTold_269 ?_
          refine lv_icmp_ne (tgt := 277) hx hb dL_isTold_270 (by decide) (fun c48 => absurd c48 (fun q => q (tset_w (gd_bz hg) (by omega) (by omega)))) (fun c48 => ?_)
          refine lv_iconst (v := 1) hx hb dL_isTold_273 (by decide) ?_
          refine lv_goto (tgt := 278) hx hb dL_isTold_274 (by decide) ?_
          refine lv_istore (lv' := [(7, .int 1), (0, .ref (α 0)), (1, .ref (lm α 0)), (2, .ref (lm α 1)), (3, .ref (lm α 2)), (4, .ref (lm α 3)), (5, .int (fq R)), (6, .int (ld R)), (8, .int (ra + ((R (12 + 10 * i)) * (R (8 + 10 * i))))), (9, .int (nI i)), (10, .int (nI (10 * i))), (11, .int (nI w9))]) hx hb dL_isTold_278 hl (by decide) rfl (fun ls hl => ?_)
          refine lv_iinc (v := nI (w9 + 1)) (lv' := [(11, .int (nI (w9 + 1))), (7, .int 1), (0, .ref (α 0)), (1, .ref (lm α 0)), (2, .ref (lm α 1)), (3, .ref (lm α 2)), (4, .ref (lm α 3)), (5, .int (fq R)), (6, .int (ld R)), (8, .int (ra + ((R (12 + 10 * i)) * (R (8 + 10 * i))))), (9, .int (nI i)), (10, .int (nI (10 * i)))]) hx hb dL_isTold_280 hl (k := 11) rfl (nI_1 w9) (by decide) rfl (fun ls hl => ?_)
          refine lv_goto (tgt := 244) hx hb dL_isTold_283 (by decide) ?_
          exact ih244 (w9 + 1) H34 (by omega) hO hL _ hS _ (lv_sub hl [2, 3, 4, 5, 6, 7, 8, 1, 9, 10, 11, 0] rfl)
      exact loop244 5 0 Hh rfl hO hL _ hS _ (lv_sub hl [3, 4, 5, 6, 7, 8, 9, 10, 1, 11, 2, 0] rfl)
  exact loop207 3 0 0 H16 rfl rfl hO hL _ hS _ (lv_sub hl [5, 6, 7, 8, 9, 4, 3, 2, 1, 0] rfl)
