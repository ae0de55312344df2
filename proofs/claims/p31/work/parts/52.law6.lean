set_option maxHeartbeats 600000 in
set_option maxRecDepth 100000 in
theorem c_L_would (l : Launch) (D : va_G) (G : Nat → ClassId) (α : Nat → Nat) (R P : Nat → Int32) (R2 : Nat → Int32) (x : Int32) (H : Heap) (hα : inj 115 α) (hO : OB D G α R H) (hL : LB D G (lm α) R P H) (hg : gd R) (hph : ph R) (hL2 : LB D G (ln α) R2 P H) : Met l yL_would wsL_would ({ frames := 6, cells := 0, slots := 0, locals := 135 } : Room) (va_Pc [.ref (α 0), .ref (lm α 0), .ref (lm α 1), .ref (lm α 2), .ref (lm α 3), .ref (ln α 0), .ref (ln α 1), .ref (ln α 2), .int x] (CX D G H)) (QI (AU α) (fun r h => 1 = r ∧ OB D G α R h ∧ ∃ P1 R3, LB D G (lm α) R P1 h ∧ LB D G (ln α) R3 P1 h)) 0 0 (AU α) := by
  refine Met.ofW (cc := cL_would) (maxL := 17) (ret := (some .boolean)) (by decide) rfl ?_
  intro p e s m args below meth c s₁ B0 hml hv
  obtain ⟨rfl, rfl, hK, hN⟩ := hv
  have hx := B0.exec
  have hb := B0.bytes
  have hr := B0.returns
  have hts := atoms_spec (ws := wsL_would) B0.pre
  have hown : s.vm.findClass RL = some m.cls := findClass_of_methodNamed B0.named
  have hlocks := B0.notSynchronized
  have hF : CallFix p m c cL_would 17 s ([.ref (α 0), .ref (lm α 0), .ref (lm α 1), .ref (lm α 2), .ref (lm α 3), .ref (ln α 0), .ref (ln α 1), .ref (ln α 2), .int x] : List Value).toArray wsL_would RL := ⟨hx, hb, hml, hown, hts⟩
  have hS : va_S (AU α) s.heap s.heap [] := va_S.rf
  have hl := lv_entry ([.ref (α 0), .ref (lm α 0), .ref (lm α 1), .ref (lm α 2), .ref (lm α 3), .ref (ln α 0), .ref (ln α 1), .ref (ln α 2), .int x]) (n := 17) (Nat.le_of_ble_eq_true rfl)
  rw [lg_entry_eq]
  generalize (lg_sl ([.ref (α 0), .ref (lm α 0), .ref (lm α 1), .ref (lm α 2), .ref (lm α 3), .ref (ln α 0), .ref (ln α 1), .ref (ln α 2), .int x]) ++ List.replicate (17 - (lg_sl ([.ref (α 0), .ref (lm α 0), .ref (lm α 1), .ref (lm α 2), .ref (lm α 3), .ref (ln α 0), .ref (ln α 1), .ref (ln α 2), .int x])).length) Slot.unset).toArray = ls at hl ⊢
  have hl : lv_has ls 17 [(0, .ref (α 0)), (1, .ref (lm α 0)), (2, .ref (lm α 1)), (3, .ref (lm α 2)), (4, .ref (lm α 3)), (5, .ref (ln α 0)), (6, .ref (ln α 1)), (7, .ref (ln α 2)), (8, .int x)] := hl
  have hμ := lm_inj hα
  have hν := ln_inj hα
  refine lv_iload hx hb dL_would_0 (lv_at hl 8 rfl) ?_
  refine lv_iconst (v := 3) hx hb dL_would_2 (by decide) ?_
  refine dp_Si hF hK hN (c_L_low l D G x 3 _ (by decide) (by decide)) (va_cwS 2 hts gL_would_L_low rfl rfl rfl (by decide +kernel) ⟨Nat.le_of_ble_eq_true rfl, Nat.le_of_ble_eq_true rfl⟩) hS nA_i [] rfl rfl hl.1 (Nat.le_of_ble_eq_true rfl) dL_would_3 ⟨Nat.le_of_ble_eq_true rfl, Nat.le_of_ble_eq_true rfl⟩ (fun rH1 H1 locs hp hzH1 hkH1 hS => ?_)
  obtain ⟨rfl, rfl⟩ := hp
  obtain ⟨j, ej⟩ : ∃ q, q = low x 3 := ⟨_, rfl⟩
  rw [← ej]
  have hj : j < 3 := by rw [ej]; exact low_lt (by decide)
  refine lv_istore (lv' := [(9, .int (nI j)), (0, .ref (α 0)), (1, .ref (lm α 0)), (2, .ref (lm α 1)), (3, .ref (lm α 2)), (4, .ref (lm α 3)), (5, .ref (ln α 0)), (6, .ref (ln α 1)), (7, .ref (ln α 2)), (8, .int x)]) hx hb dL_would_6 hl (by decide) rfl (fun ls hl => ?_)
  refine lv_sipush (v := 4700) hx hb dL_would_8 (by decide) ?_
  refine lv_iload hx hb dL_would_11 (lv_at hl 9 rfl) ?_
  refine lv_iconst (v := 2) hx hb dL_would_13 (by decide) ?_
  refine lv_ishr hx hb dL_would_14 ?_
  refine lv_sipush (v := 601) hx hb dL_would_15 (by decide) ?_
  refine dp_Si hF hK hN (c_L_low l D G (x >>> (2 &&& 31)) 601 _ (by decide) (by decide)) (va_cwS 2 hts gL_would_L_low rfl rfl rfl (by decide +kernel) ⟨Nat.le_of_ble_eq_true rfl, Nat.le_of_ble_eq_true rfl⟩) hS nA_i [.int 4700] rfl rfl hl.1 (Nat.le_of_ble_eq_true rfl) dL_would_18 ⟨Nat.le_of_ble_eq_true rfl, Nat.le_of_ble_eq_true rfl⟩ (fun rH2 H2 locs hp hzH2 hkH2 hS => ?_)
  obtain ⟨rfl, rfl⟩ := hp
  obtain ⟨a, ea⟩ : ∃ q, q = low (x >>> (2 &&& 31)) 601 := ⟨_, rfl⟩
  rw [← ea]
  have ha : a < 601 := by rw [ea]; exact low_lt (by decide)
  refine lv_iadd hx hb dL_would_21 ?_
  rw [show (4700 : Int32) + nI a = nI (4700 + a) from nI_add 4700 a]
  refine lv_istore (lv' := [(10, .int (nI (4700 + a))), (9, .int (nI j)), (0, .ref (α 0)), (1, .ref (lm α 0)), (2, .ref (lm α 1)), (3, .ref (lm α 2)), (4, .ref (lm α 3)), (5, .ref (ln α 0)), (6, .ref (ln α 1)), (7, .ref (ln α 2)), (8, .int x)]) hx hb dL_would_22 hl (by decide) rfl (fun ls hl => ?_)
  refine lv_aload_n hx hb dL_would_24 rfl (lv_at hl 3 rfl) ?_
  refine lv_bipush (v := 10) hx hb dL_would_25 (by decide) ?_
  refine lv_iload hx hb dL_would_27 (lv_at hl 1 rfl) ?_
  refine lv_imul hx hb dL_would_29 ?_
  rw [show (10 : Int32) * nI j = nI (10 * j) from pk_mul 10 j]
  refine lv_iconst (v := 2) hx hb dL_would_30 (by decide) ?_
  refine lv_iadd hx hb dL_would_31 ?_
  rw [show nI (10 * j) + (2 : Int32) = nI (10 * j + 2) from nI_add (10 * j) 2]
  refine ld_d hx hb hK hL.1 j 2 10 rfl hj (by decide) rfl dL_would_32 ?_
  refine lv_istore (lv' := [(11, .int (R (10 + 10 * j))), (10, .int (nI (4700 + a))), (9, .int (nI j)), (0, .ref (α 0)), (1, .ref (lm α 0)), (2, .ref (lm α 1)), (3, .ref (lm α 2)), (4, .ref (lm α 3)), (5, .ref (ln α 0)), (6, .ref (ln α 1)), (7, .ref (ln α 2)), (8, .int x)]) hx hb dL_would_33 hl (by decide) rfl (fun ls hl => ?_)
  refine lv_aload_n hx hb dL_would_35 rfl (lv_at hl 4 rfl) ?_
  refine lv_bipush (v := 10) hx hb dL_would_36 (by decide) ?_
  refine lv_iload hx hb dL_would_38 (lv_at hl 2 rfl) ?_
  refine lv_imul hx hb dL_would_40 ?_
  rw [show (10 : Int32) * nI j = nI (10 * j) from pk_mul 10 j]
  refine lv_iconst (v := 2) hx hb dL_would_41 (by decide) ?_
  refine lv_iadd hx hb dL_would_42 ?_
  rw [show nI (10 * j) + (2 : Int32) = nI (10 * j + 2) from nI_add (10 * j) 2]
  refine lv_iload hx hb dL_would_43 (lv_at hl 1 rfl) ?_
  refine dp_iast (A := AU α) hx hb hK hL.1 (T_U _ (lm_T _ ⟨0, by decide, rfl⟩)) hS 0 rfl (10 * j + 2) rfl (by have := (hj : j < 3); have := ((by decide) : 2 < 10); omega) (by decide) dL_would_45 (fun H3 locs hH3 hzH3 hkH3 hS => ?_)
  replace hO := hO.ad (i := 0) hα (by decide) hkH3
  replace hL2 := hL2.ad2 (i := 0) hα (by decide) hkH3
  have hL : LB D G (lm α) (upd R (10 + 10 * j) (nI (4700 + a))) P H3 := hL.d (w := 2) hμ hj (by decide) rfl hH3 hkH3
  replace hL : LB D G (lm α) (usp R j (nI (4700 + a))) P H3 := hL
  have hgu := gd_usp (a := a) hg hj (by omega)
  refine lv_aload_n hx hb dL_would_46 rfl (lv_at hl 4 rfl) ?_
  refine lv_aload_n hx hb dL_would_47 rfl (lv_at hl 5 rfl) ?_
  refine lv_aload hx hb dL_would_48 (lv_at hl 7 rfl) ?_
  refine dp_Sv hF hK hN (c_L_powers l D G (lm α) (usp R j (nI (4700 + a))) P  _ hμ hL hgu) (va_cwS 3 hts gL_would_L_powers rfl rfl rfl (by decide +kernel) ⟨Nat.le_of_ble_eq_true rfl, Nat.le_of_ble_eq_true rfl⟩) hS (fun q h => T_U q (lm_T q h)) [] rfl rfl hl.1 (Nat.le_of_ble_eq_true rfl) dL_would_50 ⟨Nat.le_of_ble_eq_true rfl, Nat.le_of_ble_eq_true rfl⟩ (fun H4 locs hp hzH4 hkH4 hS => ?_)
  replace hO := hO.km hα hkH4
  have h9L := hp
  replace hL2 := hL2.mix2 hα h9L hkH4
  replace hL := h9L
  refine lv_aload_n hx hb dL_would_53 rfl (lv_at hl 3 rfl) ?_
  refine lv_iload hx hb dL_would_54 (lv_at hl 2 rfl) ?_
  refine lv_iload hx hb dL_would_56 (lv_at hl 1 rfl) ?_
  refine lv_iconst (v := 0) hx hb dL_would_58 (by decide) ?_
  refine dp_Vi hF hK hN (n_X5_ifSpeed l D G α R j (nI (4700 + a)) 0 _ hα hO hg hj (sp_ok (by omega)) (by decide) (mono_us hg (by omega))) (cwV 3 hts gL_would_X5_ifSpeed rfl rfl rfl (by decide +kernel) ⟨Nat.le_of_ble_eq_true rfl, Nat.le_of_ble_eq_true rfl⟩) (ob_recv hK hO) hS (fun q h => T_U q (A5_T q h)) [] rfl rfl hl.1 (Nat.le_of_ble_eq_true rfl) dL_would_59 ⟨Nat.le_of_ble_eq_true rfl, Nat.le_of_ble_eq_true rfl⟩ (fun rH5 H5 locs hp hzH5 hkH5 hS => ?_)
  obtain ⟨rfl, h9O⟩ := hp
  replace hO := h9O
  replace hL := hL.o5 hα hkH5
  replace hL2 := hL2.n5 hα hkH5
  refine lv_aload_n hx hb dL_would_62 rfl (lv_at hl 4 rfl) ?_
  refine lv_aload_n hx hb dL_would_63 rfl (lv_at hl 5 rfl) ?_
  refine dp_Si hF hK hN (c_L_frequency l D G (lm α) (usp R j (nI (4700 + a))) (pwv (usp R j (nI (4700 + a))))  _ hμ hL hgu) (va_cwS 2 hts gL_would_L_frequency rfl rfl rfl (by decide +kernel) ⟨Nat.le_of_ble_eq_true rfl, Nat.le_of_ble_eq_true rfl⟩) hS nA_i [.int (tif R j (nI (4700 + a)) 0)] rfl rfl hl.1 (Nat.le_of_ble_eq_true rfl) dL_would_64 ⟨Nat.le_of_ble_eq_true rfl, Nat.le_of_ble_eq_true rfl⟩ (fun rH6 H6 locs hp hzH6 hkH6 hS => ?_)
  obtain ⟨rfl, rfl⟩ := hp
  refine lv_icmp_ne (tgt := 107) hx hb dL_would_67 (by decide) (fun c1 => absurd c1 (fun q => q rfl)) (fun c1 => ?_)
  refine lv_aload_n hx hb dL_would_70 rfl (lv_at hl 3 rfl) ?_
  refine lv_iload hx hb dL_would_71 (lv_at hl 2 rfl) ?_
  refine lv_iload hx hb dL_would_73 (lv_at hl 1 rfl) ?_
  refine lv_iconst (v := 1) hx hb dL_would_75 (by decide) ?_
  refine dp_Vi hF hK hN (n_X5_ifSpeed l D G α R j (nI (4700 + a)) 1 _ hα hO hg hj (sp_ok (by omega)) (by decide) (mono_us hg (by omega))) (cwV 3 hts gL_would_X5_ifSpeed rfl rfl rfl (by decide +kernel) ⟨Nat.le_of_ble_eq_true rfl, Nat.le_of_ble_eq_true rfl⟩) (ob_recv hK hO) hS (fun q h => T_U q (A5_T q h)) [] rfl rfl hl.1 (Nat.le_of_ble_eq_true rfl) dL_would_76 ⟨Nat.le_of_ble_eq_true rfl, Nat.le_of_ble_eq_true rfl⟩ (fun rH7 H7 locs hp hzH7 hkH7 hS => ?_)
  obtain ⟨rfl, h9O⟩ := hp
  replace hO := h9O
  replace hL := hL.o5 hα hkH7
  replace hL2 := hL2.n5 hα hkH7
  refine lv_aload hx hb dL_would_79 (lv_at hl 7 rfl) ?_
  refine lv_iload hx hb dL_would_81 (lv_at hl 2 rfl) ?_
  refine dp_iald hx hb hK hL.2.2.2 0 rfl j rfl (by omega) (by decide) dL_would_83 ?_
  refine lv_icmp_ne (tgt := 107) hx hb dL_would_84 (by decide) (fun c2 => absurd c2 (fun q => q (tif_1p hj))) (fun c2 => ?_)
  refine lv_aload_n hx hb dL_would_87 rfl (lv_at hl 3 rfl) ?_
  refine lv_iload hx hb dL_would_88 (lv_at hl 2 rfl) ?_
  refine lv_iload hx hb dL_would_90 (lv_at hl 1 rfl) ?_
  refine lv_iconst (v := 2) hx hb dL_would_92 (by decide) ?_
  refine dp_Vi hF hK hN (n_X5_ifSpeed l D G α R j (nI (4700 + a)) 2 _ hα hO hg hj (sp_ok (by omega)) (by decide) (mono_us hg (by omega))) (cwV 3 hts gL_would_X5_ifSpeed rfl rfl rfl (by decide +kernel) ⟨Nat.le_of_ble_eq_true rfl, Nat.le_of_ble_eq_true rfl⟩) (ob_recv hK hO) hS (fun q h => T_U q (A5_T q h)) [] rfl rfl hl.1 (Nat.le_of_ble_eq_true rfl) dL_would_93 ⟨Nat.le_of_ble_eq_true rfl, Nat.le_of_ble_eq_true rfl⟩ (fun rH8 H8 locs hp hzH8 hkH8 hS => ?_)
  obtain ⟨rfl, h9O⟩ := hp
  replace hO := h9O
  replace hL := hL.o5 hα hkH8
  replace hL2 := hL2.n5 hα hkH8
  refine lv_aload hx hb dL_would_96 (lv_at hl 7 rfl) ?_
  refine lv_iconst (v := 3) hx hb dL_would_98 (by decide) ?_
  refine dp_iald hx hb hK hL.2.2.2 0 rfl 3 rfl (by decide) (by decide) dL_would_99 ?_
  refine lv_icmp_ne (tgt := 107) hx hb dL_would_100 (by decide) (fun c3 => absurd c3 (fun q => q tif_2)) (fun c3 => ?_)
  refine lv_iconst (v := 1) hx hb dL_would_103 (by decide) ?_
  refine lv_goto (tgt := 108) hx hb dL_would_104 (by decide) ?_
  refine lv_istore (lv' := [(12, .int 1), (11, .int (R (10 + 10 * j))), (10, .int (nI (4700 + a))), (9, .int (nI j)), (0, .ref (α 0)), (1, .ref (lm α 0)), (2, .ref (lm α 1)), (3, .ref (lm α 2)), (4, .ref (lm α 3)), (5, .ref (ln α 0)), (6, .ref (ln α 1)), (7, .ref (ln α 2)), (8, .int x)]) hx hb dL_would_108 hl (by decide) rfl (fun ls hl => ?_)
  refine lv_aload_n hx hb dL_would_110 rfl (lv_at hl 5 rfl) ?_
  refine lv_bipush (v := 10) hx hb dL_would_111 (by decide) ?_
  refine lv_iload hx hb dL_would_113 (lv_at hl 3 rfl) ?_
  refine lv_imul hx hb dL_would_115 ?_
  rw [show (10 : Int32) * nI j = nI (10 * j) from pk_mul 10 j]
  refine lv_iconst (v := 2) hx hb dL_would_116 (by decide) ?_
  refine lv_iadd hx hb dL_would_117 ?_
  rw [show nI (10 * j) + (2 : Int32) = nI (10 * j + 2) from nI_add (10 * j) 2]
  refine lv_iload hx hb dL_would_118 (lv_at hl 1 rfl) ?_
  refine dp_iast (A := AU α) hx hb hK hL.1 (T_U _ (lm_T _ ⟨0, by decide, rfl⟩)) hS 0 rfl (10 * j + 2) rfl (by have := (hj : j < 3); have := ((by decide) : 2 < 10); omega) (by decide) dL_would_120 (fun H9 locs hH9 hzH9 hkH9 hS => ?_)
  replace hO := hO.ad (i := 0) hα (by decide) hkH9
  replace hL2 := hL2.ad2 (i := 0) hα (by decide) hkH9
  have hL : LB D G (lm α) (upd (usp R j (nI (4700 + a))) (10 + 10 * j) (R (10 + 10 * j))) (pwv (usp R j (nI (4700 + a)))) H9 := hL.d (w := 2) hμ hj (by decide) rfl hH9 hkH9
  rw [usp_usp, usp_self] at hL
  obtain ⟨n0, n1, n2, n3⟩ := hL2
  refine lv_aload_n hx hb dL_would_121 rfl (lv_at hl 5 rfl) ?_
  refine lv_aload hx hb dL_would_122 (lv_at hl 9 rfl) ?_
  refine dp_Sv hF hK hN (c_L_copy l D G (lm α 0) (ln α 0) 30 (dR R) (dR R2) _ hL.1 n0 (ln_ne hα (by decide) (by decide)) (by decide)) (va_cwS 2 hts gL_would_L_copy rfl rfl rfl (by decide +kernel) ⟨Nat.le_of_ble_eq_true rfl, Nat.le_of_ble_eq_true rfl⟩) hS (fun q hq => ln_U q ⟨0, by decide, hq⟩) [] rfl rfl hl.1 (Nat.le_of_ble_eq_true rfl) dL_would_124 ⟨Nat.le_of_ble_eq_true rfl, Nat.le_of_ble_eq_true rfl⟩ (fun H10 locs hp hzH10 hkH10 hS => ?_)
  replace n1 := n1.kept (hkH10 _ n1.lt (fun e => absurd (ln_inj hα 1 0 (by decide) (by decide) e) (by decide)))
  replace n2 := n2.kept (hkH10 _ n2.lt (fun e => absurd (ln_inj hα 2 0 (by decide) (by decide) e) (by decide)))
  replace n3 := n3.kept (hkH10 _ n3.lt (fun e => absurd (ln_inj hα 3 0 (by decide) (by decide) e) (by decide)))
  replace n0 := hp
  replace hO := hO.cpk (i := 0) hα (by decide) hkH10
  replace hL := hL.cpk (i := 0) hα (by decide) hkH10
  refine lv_aload_n hx hb dL_would_127 rfl (lv_at hl 6 rfl) ?_
  refine lv_aload hx hb dL_would_128 (lv_at hl 10 rfl) ?_
  refine dp_Sv hF hK hN (c_L_copy l D G (lm α 1) (ln α 1) 12 (fR R) (fR R2) _ hL.2.1 n1 (ln_ne hα (by decide) (by decide)) (by decide)) (va_cwS 2 hts gL_would_L_copy rfl rfl rfl (by decide +kernel) ⟨Nat.le_of_ble_eq_true rfl, Nat.le_of_ble_eq_true rfl⟩) hS (fun q hq => ln_U q ⟨1, by decide, hq⟩) [] rfl rfl hl.1 (Nat.le_of_ble_eq_true rfl) dL_would_130 ⟨Nat.le_of_ble_eq_true rfl, Nat.le_of_ble_eq_true rfl⟩ (fun H11 locs hp hzH11 hkH11 hS => ?_)
  replace n0 := n0.kept (hkH11 _ n0.lt (fun e => absurd (ln_inj hα 0 1 (by decide) (by decide) e) (by decide)))
  replace n2 := n2.kept (hkH11 _ n2.lt (fun e => absurd (ln_inj hα 2 1 (by decide) (by decide) e) (by decide)))
  replace n3 := n3.kept (hkH11 _ n3.lt (fun e => absurd (ln_inj hα 3 1 (by decide) (by decide) e) (by decide)))
  replace n1 := hp
  replace hO := hO.cpk (i := 1) hα (by decide) hkH11
  replace hL := hL.cpk (i := 1) hα (by decide) hkH11
  refine lv_aload_n hx hb dL_would_133 rfl (lv_at hl 7 rfl) ?_
  refine lv_aload hx hb dL_would_134 (lv_at hl 11 rfl) ?_
  refine dp_Sv hF hK hN (c_L_copy l D G (lm α 2) (ln α 2) 8 R R2 _ hL.2.2.1 n2 (ln_ne hα (by decide) (by decide)) (by decide)) (va_cwS 2 hts gL_would_L_copy rfl rfl rfl (by decide +kernel) ⟨Nat.le_of_ble_eq_true rfl, Nat.le_of_ble_eq_true rfl⟩) hS (fun q hq => ln_U q ⟨2, by decide, hq⟩) [] rfl rfl hl.1 (Nat.le_of_ble_eq_true rfl) dL_would_136 ⟨Nat.le_of_ble_eq_true rfl, Nat.le_of_ble_eq_true rfl⟩ (fun H12 locs hp hzH12 hkH12 hS => ?_)
  replace n0 := n0.kept (hkH12 _ n0.lt (fun e => absurd (ln_inj hα 0 2 (by decide) (by decide) e) (by decide)))
  replace n1 := n1.kept (hkH12 _ n1.lt (fun e => absurd (ln_inj hα 1 2 (by decide) (by decide) e) (by decide)))
  replace n3 := n3.kept (hkH12 _ n3.lt (fun e => absurd (ln_inj hα 3 2 (by decide) (by decide) e) (by decide)))
  replace n2 := hp
  replace hO := hO.cpk (i := 2) hα (by decide) hkH12
  replace hL := hL.cpk (i := 2) hα (by decide) hkH12
  have hL2 : LB D G (ln α) R (pwv (usp R j (nI (4700 + a)))) H12 := ⟨n0, n1, n2, n3⟩
  refine lv_iconst (v := (-1)) hx hb dL_would_139 (by decide) ?_
  refine lv_istore (lv' := [(13, .int (-1)), (12, .int 1), (11, .int (R (10 + 10 * j))), (10, .int (nI (4700 + a))), (9, .int (nI j)), (0, .ref (α 0)), (1, .ref (lm α 0)), (2, .ref (lm α 1)), (3, .ref (lm α 2)), (4, .ref (lm α 3)), (5, .ref (ln α 0)), (6, .ref (ln α 1)), (7, .ref (ln α 2)), (8, .int x)]) hx hb dL_would_140 hl (by decide) rfl (fun ls hl => ?_)
  refine lv_iconst (v := (-1)) hx hb dL_would_142 (by decide) ?_
  refine lv_istore (lv' := [(14, .int (-1)), (13, .int (-1)), (12, .int 1), (11, .int (R (10 + 10 * j))), (10, .int (nI (4700 + a))), (9, .int (nI j)), (0, .ref (α 0)), (1, .ref (lm α 0)), (2, .ref (lm α 1)), (3, .ref (lm α 2)), (4, .ref (lm α 3)), (5, .ref (ln α 0)), (6, .ref (ln α 1)), (7, .ref (ln α 2)), (8, .int x)]) hx hb dL_would_143 hl (by decide) rfl (fun ls hl => ?_)
  refine lv_iconst (v := 0) hx hb dL_would_145 (by decide) ?_
  refine lv_istore (lv' := [(15, .int 0), (14, .int (-1)), (13, .int (-1)), (12, .int 1), (11, .int (R (10 + 10 * j))), (10, .int (nI (4700 + a))), (9, .int (nI j)), (0, .ref (α 0)), (1, .ref (lm α 0)), (2, .ref (lm α 1)), (3, .ref (lm α 2)), (4, .ref (lm α 3)), (5, .ref (ln α 0)), (6, .ref (ln α 1)), (7, .ref (ln α 2)), (8, .int x)]) hx hb dL_would_146 hl (by decide) rfl (fun ls hl => ?_)
  have loop148 : ∀ (m9 : Nat) (k : Nat) (cl9 : Int32) (tr9 : Int32) (P9 : Nat → Int32) (Hh : Heap) (_ : k + m9 = 501) (_ : clI R j k cl9) (_ : trI R k tr9) (_ : OB D G α R Hh) (_ : LB D G (lm α) R P9 Hh) (_ : LB D G (ln α) (pt R k) P9 Hh) (locs : List Loc) (_ : va_S (AU α) s.heap Hh locs) (ls : Array Slot) (_ : lv_has ls 17 [(0, .ref (α 0)), (1, .ref (lm α 0)), (2, .ref (lm α 1)), (3, .ref (lm α 2)), (4, .ref (lm α 3)), (5, .ref (ln α 0)), (6, .ref (ln α 1)), (7, .ref (ln α 2)), (9, .int (nI j)), (12, .int 1), (13, .int cl9), (14, .int tr9), (15, .int (nI k))]), W p l e (headSpec wsL_would ({ frames := 6, cells := 0, slots := 0, locals := 135 } : Room)).room s m ([.ref (α 0), .ref (lm α 0), .ref (lm α 1), .ref (lm α 2), .ref (lm α 3), .ref (ln α 0), .ref (ln α 1), .ref (ln α 2), .int x] : List Value).toArray below meth c Hh locs 0 0 (MQ below (QI (AU α) (fun r h => 1 = r ∧ OB D G α R h ∧ ∃ P1 R3, LB D G (lm α) R P1 h ∧ LB D G (ln α) R3 P1 h)) ([.ref (α 0), .ref (lm α 0), .ref (lm α 1), .ref (lm α 2), .ref (lm α 3), .ref (ln α 0), .ref (ln α 1), .ref (ln α 2), .int x] : List Value).toArray s 0 0 (AU α)) (F0 m 148 ls []) := by
    intro m9
    induction m9 with
    | zero =>
      intro k cl9 tr9 P9 Hh hin hcl htr hO hL hL2 locs hS ls hl
      refine lv_iload hx hb dL_would_148 (lv_at hl 12 rfl) ?_
      refine lv_sipush (v := 500) hx hb dL_would_150 (by decide) ?_
      refine lv_icmp_gt (tgt := 248) hx hb dL_would_153 (by decide) (fun c4 => ?_) (fun c4 => absurd (nI_lt (a := 500) (b := k) (by omega) (by omega)) c4)
      have hO9 := hO
      refine lv_iload hx hb dL_would_248 (lv_at hl 9 rfl) ?_
      refine lv_if_eq (tgt := 277) hx hb dL_would_250 (by decide) (fun c5 => absurd c5 (by decide)) (fun c5 => ?_)
      refine lv_aload_n hx hb dL_would_253 rfl (lv_at hl 0 rfl) ?_
      refine lv_iload hx hb dL_would_254 (lv_at hl 8 rfl) ?_
      refine dp_Vi hF hK hN (n_X5_closeIn l D G α R j _ hα hO hg hj) (cwV 1 hts gL_would_X5_closeIn rfl rfl rfl (by decide +kernel) ⟨Nat.le_of_ble_eq_true rfl, Nat.le_of_ble_eq_true rfl⟩) (ob_recv hK hO) hS (fun q h => T_U q (A5_T q h)) [] rfl rfl hl.1 (Nat.le_of_ble_eq_true rfl) dL_would_256 ⟨Nat.le_of_ble_eq_true rfl, Nat.le_of_ble_eq_true rfl⟩ (fun rH13 H13 locs hp hzH13 hkH13 hS => ?_)
      obtain ⟨rfl, h9O⟩ := hp
      replace hO := h9O
      replace hL := hL.o5 hα hkH13
      replace hL2 := hL2.n5 hα hkH13
      refine lv_iload hx hb dL_would_259 (lv_at hl 10 rfl) ?_
      refine lv_icmp_ne (tgt := 277) hx hb dL_would_261 (by decide) (fun c6 => absurd c6 (fun q => q (cl_e hj hcl (by omega) (Or.inl (by omega))))) (fun c6 => ?_)
      refine lv_aload_n hx hb dL_would_264 rfl (lv_at hl 0 rfl) ?_
      obtain ⟨RS, kp, sv, n, F, len, hn6, hl6, w, RT, hw, hD⟩ := hO
      refine dp_Vi hF hK hN (c_X5_nextTrip l D G α w R RT RS kp sv n F len _ hα hw hD (gd_bz hg) (gd_mono hg) hn6 hl6 (fun k _ => gd_mono (gd_pt hg k))) (cwV 0 hts gL_would_X5_nextTrip rfl rfl rfl (by decide +kernel) ⟨Nat.le_of_ble_eq_true rfl, Nat.le_of_ble_eq_true rfl⟩) (dp_recv hK hD.1 rfl) hS (fun q h => T_U q (A5_T q h)) [] rfl rfl hl.1 (Nat.le_of_ble_eq_true rfl) dL_would_265 ⟨Nat.le_of_ble_eq_true rfl, Nat.le_of_ble_eq_true rfl⟩ (fun rH14 H14 locs hp hzH14 hkH14 hS => ?_)
      obtain ⟨rfl, h9D⟩ := hp
      have hO : OB D G α R H14 := ⟨RS, kp, sv, n, F, len, hn6, hl6, h9D⟩
      replace hL := hL.o5 hα hkH14
      replace hL2 := hL2.n5 hα hkH14
      refine lv_iload hx hb dL_would_268 (lv_at hl 11 rfl) ?_
      refine lv_icmp_ne (tgt := 277) hx hb dL_would_270 (by decide) (fun c7 => absurd c7 (fun q => q (ti_e htr (Or.inl (by omega))))) (fun c7 => ?_)
      refine lv_iconst (v := 1) hx hb dL_would_273 (by decide) ?_
      refine lv_goto (tgt := 278) hx hb dL_would_274 (by decide) ?_
      exact W.zret (ty := .boolean) hx hb hr rfl (fun t ht hW => ⟨⟨1, H14, rfl, ⟨rfl, hO, _, _, hL, hL2⟩, ht⟩, hS.F ht⟩) hS.2.2 dL_would_278
    | succ m9 ih148 =>
      intro k cl9 tr9 P9 Hh hin hcl htr hO hL hL2 locs hS ls hl
      refine lv_iload hx hb dL_would_148 (lv_at hl 12 rfl) ?_
      refine lv_sipush (v := 500) hx hb dL_would_150 (by decide) ?_
      refine lv_icmp_gt (tgt := 248) hx hb dL_would_153 (by decide) (fun c8 => absurd c8 (nI_nlt (a := 500) (b := k) (by omega) (by omega))) (fun c8 => ?_)
      refine lv_iload hx hb dL_would_156 (lv_at hl 10 rfl) ?_
      refine lv_if_lt (tgt := 173) hx hb dL_would_158 (by decide) (fun c9 => ?_) (fun c9 => ?_)
      · refine lv_iload hx hb dL_would_173 (lv_at hl 10 rfl) ?_
        refine lv_if_ge (tgt := 197) hx hb dL_would_175 (by decide) (fun c10 => absurd c10 (Int32.not_le.mpr c9)) (fun c10 => ?_)
        refine lv_aload hx hb dL_would_178 (lv_at hl 5 rfl) ?_
        refine lv_aload hx hb dL_would_180 (lv_at hl 6 rfl) ?_
        refine lv_aload hx hb dL_would_182 (lv_at hl 7 rfl) ?_
        refine lv_iload hx hb dL_would_184 (lv_at hl 8 rfl) ?_
        refine dp_Si hF hK hN (c_L_why l D G (ln α) (pt R k) P9 j _ hν hL2 (gd_pt hg k) hj (ph_pt hg hph k)) (va_cwS 4 hts gL_would_L_why rfl rfl rfl (by decide +kernel) ⟨Nat.le_of_ble_eq_true rfl, Nat.le_of_ble_eq_true rfl⟩) hS nA_i [] rfl rfl hl.1 (Nat.le_of_ble_eq_true rfl) dL_would_186 ⟨Nat.le_of_ble_eq_true rfl, Nat.le_of_ble_eq_true rfl⟩ (fun rH15 H15 locs hp hzH15 hkH15 hS => ?_)
        obtain ⟨rfl, rfl⟩ := hp
        refine lv_if_ne (tgt := 197) hx hb dL_would_189 (by decide) (fun c11 => ?_) (fun c11 => ?_)
        · refine lv_iload hx hb dL_would_197 (lv_at hl 10 rfl) ?_
          refine lv_istore (lv' := [(13, .int cl9), (0, .ref (α 0)), (1, .ref (lm α 0)), (2, .ref (lm α 1)), (3, .ref (lm α 2)), (4, .ref (lm α 3)), (5, .ref (ln α 0)), (6, .ref (ln α 1)), (7, .ref (ln α 2)), (9, .int (nI j)), (12, .int 1), (14, .int tr9), (15, .int (nI k))]) hx hb dL_would_199 hl (by decide) rfl (fun ls hl => ?_)
          refine lv_aload hx hb dL_would_201 (lv_at hl 6 rfl) ?_
          refine lv_aload hx hb dL_would_203 (lv_at hl 7 rfl) ?_
          refine lv_aload hx hb dL_would_205 (lv_at hl 8 rfl) ?_
          refine lv_aload hx hb dL_would_207 (lv_at hl 5 rfl) ?_
          refine dp_Si hF hK hN (c_L_ticks l D G (ln α) (pt R k) P9  _ hν hL2 (gd_pt hg k) (ph_pt hg hph k)) (va_cwS 4 hts gL_would_L_ticks rfl rfl rfl (by decide +kernel) ⟨Nat.le_of_ble_eq_true rfl, Nat.le_of_ble_eq_true rfl⟩) hS ln_U [] rfl rfl hl.1 (Nat.le_of_ble_eq_true rfl) dL_would_209 ⟨Nat.le_of_ble_eq_true rfl, Nat.le_of_ble_eq_true rfl⟩ (fun rH16 H16 locs hp hzH16 hkH16 hS => ?_)
          replace hO := hO.kn hα hkH16
          obtain ⟨rfl, h9L⟩ := hp
          replace hL := hL.mix hα h9L hkH16
          replace hL2 := h9L
          refine lv_istore (lv' := [(16, .int (tkn (pt R k))), (13, .int cl9), (0, .ref (α 0)), (1, .ref (lm α 0)), (2, .ref (lm α 1)), (3, .ref (lm α 2)), (4, .ref (lm α 3)), (5, .ref (ln α 0)), (6, .ref (ln α 1)), (7, .ref (ln α 2)), (9, .int (nI j)), (12, .int 1), (14, .int tr9), (15, .int (nI k))]) hx hb dL_would_212 hl (by decide) rfl (fun ls hl => ?_)
          refine lv_iload hx hb dL_would_214 (lv_at hl 12 rfl) ?_
          refine lv_if_ge (tgt := 238) hx hb dL_would_216 (by decide) (fun c12 => ?_) (fun c12 => ?_)
          · refine lv_iload hx hb dL_would_238 (lv_at hl 12 rfl) ?_
            refine lv_istore (lv' := [(14, .int tr9), (16, .int (tkn (pt R k))), (13, .int cl9), (0, .ref (α 0)), (1, .ref (lm α 0)), (2, .ref (lm α 1)), (3, .ref (lm α 2)), (4, .ref (lm α 3)), (5, .ref (ln α 0)), (6, .ref (ln α 1)), (7, .ref (ln α 2)), (9, .int (nI j)), (12, .int 1), (15, .int (nI k))]) hx hb dL_would_240 hl (by decide) rfl (fun ls hl => ?_)
            refine lv_iinc (v := nI (k + 1)) (lv' := [(15, .int (nI (k + 1))), (14, .int tr9), (16, .int (tkn (pt R k))), (13, .int cl9), (0, .ref (α 0)), (1, .ref (lm α 0)), (2, .ref (lm α 1)), (3, .ref (lm α 2)), (4, .ref (lm α 3)), (5, .ref (ln α 0)), (6, .ref (ln α 1)), (7, .ref (ln α 2)), (9, .int (nI j)), (12, .int 1)]) hx hb dL_would_242 hl (k := 13) rfl (nI_1 k) (by decide) rfl (fun ls hl => ?_)
            refine lv_goto (tgt := 148) hx hb dL_would_245 (by decide) ?_
            exact ih148 (k + 1) cl9 tr9 (pwv (pt R k)) H16 (by omega) (cl_b hcl (by omega) c9 c11) (ti_a htr c12) hO hL hL2 _ hS _ (lv_sub hl [4, 5, 6, 7, 8, 9, 10, 11, 12, 13, 3, 1, 0] rfl)
          refine lv_iload hx hb dL_would_219 (lv_at hl 0 rfl) ?_
          refine lv_if_le (tgt := 238) hx hb dL_would_221 (by decide) (fun c13 => ?_) (fun c13 => ?_)
          · refine lv_iload hx hb dL_would_238 (lv_at hl 12 rfl) ?_
            refine lv_istore (lv' := [(14, .int tr9), (16, .int (tkn (pt R k))), (13, .int cl9), (0, .ref (α 0)), (1, .ref (lm α 0)), (2, .ref (lm α 1)), (3, .ref (lm α 2)), (4, .ref (lm α 3)), (5, .ref (ln α 0)), (6, .ref (ln α 1)), (7, .ref (ln α 2)), (9, .int (nI j)), (12, .int 1), (15, .int (nI k))]) hx hb dL_would_240 hl (by decide) rfl (fun ls hl => ?_)
            refine lv_iinc (v := nI (k + 1)) (lv' := [(15, .int (nI (k + 1))), (14, .int tr9), (16, .int (tkn (pt R k))), (13, .int cl9), (0, .ref (α 0)), (1, .ref (lm α 0)), (2, .ref (lm α 1)), (3, .ref (lm α 2)), (4, .ref (lm α 3)), (5, .ref (ln α 0)), (6, .ref (ln α 1)), (7, .ref (ln α 2)), (9, .int (nI j)), (12, .int 1)]) hx hb dL_would_242 hl (k := 13) rfl (nI_1 k) (by decide) rfl (fun ls hl => ?_)
            refine lv_goto (tgt := 148) hx hb dL_would_245 (by decide) ?_
            exact ih148 (k + 1) cl9 tr9 (pwv (pt R k)) H16 (by omega) (cl_b hcl (by omega) c9 c11) (ti_b htr c12 (fun _ => c13)) hO hL hL2 _ hS _ (lv_sub hl [4, 5, 6, 7, 8, 9, 10, 11, 12, 13, 3, 1, 0] rfl)
          refine lv_iload hx hb dL_would_224 (lv_at hl 13 rfl) ?_
          refine lv_bipush (v := 100) hx hb dL_would_226 (by decide) ?_
          refine lv_icmp_ge (tgt := 238) hx hb dL_would_228 (by decide) (fun c14 => ?_) (fun c14 => ?_)
          · refine lv_iload hx hb dL_would_238 (lv_at hl 12 rfl) ?_
            refine lv_istore (lv' := [(14, .int tr9), (16, .int (tkn (pt R k))), (13, .int cl9), (0, .ref (α 0)), (1, .ref (lm α 0)), (2, .ref (lm α 1)), (3, .ref (lm α 2)), (4, .ref (lm α 3)), (5, .ref (ln α 0)), (6, .ref (ln α 1)), (7, .ref (ln α 2)), (9, .int (nI j)), (12, .int 1), (15, .int (nI k))]) hx hb dL_would_240 hl (by decide) rfl (fun ls hl => ?_)
            refine lv_iinc (v := nI (k + 1)) (lv' := [(15, .int (nI (k + 1))), (14, .int tr9), (16, .int (tkn (pt R k))), (13, .int cl9), (0, .ref (α 0)), (1, .ref (lm α 0)), (2, .ref (lm α 1)), (3, .ref (lm α 2)), (4, .ref (lm α 3)), (5, .ref (ln α 0)), (6, .ref (ln α 1)), (7, .ref (ln α 2)), (9, .int (nI j)), (12, .int 1)]) hx hb dL_would_242 hl (k := 13) rfl (nI_1 k) (by decide) rfl (fun ls hl => ?_)
            refine lv_goto (tgt := 148) hx hb dL_would_245 (by decide) ?_
            exact ih148 (k + 1) cl9 tr9 (pwv (pt R k)) H16 (by omega) (cl_b hcl (by omega) c9 c11) (ti_b htr c12 (fun q => absurd (nI_ge100 (by omega) c14) (by omega))) hO hL hL2 _ hS _ (lv_sub hl [4, 5, 6, 7, 8, 9, 10, 11, 12, 13, 3, 1, 0] rfl)
          refine lv_iload hx hb dL_would_231 (lv_at hl 13 rfl) ?_
          refine lv_iconst (v := 1) hx hb dL_would_233 (by decide) ?_
          refine lv_iadd hx hb dL_would_234 ?_
          rw [show nI k + (1 : Int32) = nI (k + 1) from nI_add k 1]
          refine lv_goto (tgt := 240) hx hb dL_would_235 (by decide) ?_
          refine lv_istore (lv' := [(14, .int (nI (k + 1))), (16, .int (tkn (pt R k))), (13, .int cl9), (0, .ref (α 0)), (1, .ref (lm α 0)), (2, .ref (lm α 1)), (3, .ref (lm α 2)), (4, .ref (lm α 3)), (5, .ref (ln α 0)), (6, .ref (ln α 1)), (7, .ref (ln α 2)), (9, .int (nI j)), (12, .int 1), (15, .int (nI k))]) hx hb dL_would_240 hl (by decide) rfl (fun ls hl => ?_)
          refine lv_iinc (v := nI (k + 1)) (lv' := [(15, .int (nI (k + 1))), (14, .int (nI (k + 1))), (16, .int (tkn (pt R k))), (13, .int cl9), (0, .ref (α 0)), (1, .ref (lm α 0)), (2, .ref (lm α 1)), (3, .ref (lm α 2)), (4, .ref (lm α 3)), (5, .ref (ln α 0)), (6, .ref (ln α 1)), (7, .ref (ln α 2)), (9, .int (nI j)), (12, .int 1)]) hx hb dL_would_242 hl (k := 13) rfl (nI_1 k) (by decide) rfl (fun ls hl => ?_)
          refine lv_goto (tgt := 148) hx hb dL_would_245 (by decide) ?_
          exact ih148 (k + 1) cl9 (nI (k + 1)) (pwv (pt R k)) H16 (by omega) (cl_b hcl (by omega) c9 c11) (ti_d htr c12 c13 (nI_lt100 (by omega) c14)) hO hL hL2 _ hS _ (lv_sub hl [4, 5, 6, 7, 8, 9, 10, 11, 12, 13, 3, 1, 0] rfl)
        refine lv_iload hx hb dL_would_192 (lv_at hl 12 rfl) ?_
        refine lv_goto (tgt := 199) hx hb dL_would_194 (by decide) ?_
        refine lv_istore (lv' := [(13, .int (nI k)), (0, .ref (α 0)), (1, .ref (lm α 0)), (2, .ref (lm α 1)), (3, .ref (lm α 2)), (4, .ref (lm α 3)), (5, .ref (ln α 0)), (6, .ref (ln α 1)), (7, .ref (ln α 2)), (9, .int (nI j)), (12, .int 1), (14, .int tr9), (15, .int (nI k))]) hx hb dL_would_199 hl (by decide) rfl (fun ls hl => ?_)
        refine lv_aload hx hb dL_would_201 (lv_at hl 6 rfl) ?_
        refine lv_aload hx hb dL_would_203 (lv_at hl 7 rfl) ?_
        refine lv_aload hx hb dL_would_205 (lv_at hl 8 rfl) ?_
        refine lv_aload hx hb dL_would_207 (lv_at hl 5 rfl) ?_
        refine dp_Si hF hK hN (c_L_ticks l D G (ln α) (pt R k) P9  _ hν hL2 (gd_pt hg k) (ph_pt hg hph k)) (va_cwS 4 hts gL_would_L_ticks rfl rfl rfl (by decide +kernel) ⟨Nat.le_of_ble_eq_true rfl, Nat.le_of_ble_eq_true rfl⟩) hS ln_U [] rfl rfl hl.1 (Nat.le_of_ble_eq_true rfl) dL_would_209 ⟨Nat.le_of_ble_eq_true rfl, Nat.le_of_ble_eq_true rfl⟩ (fun rH17 H17 locs hp hzH17 hkH17 hS => ?_)
        replace hO := hO.kn hα hkH17
        obtain ⟨rfl, h9L⟩ := hp
        replace hL := hL.mix hα h9L hkH17
        replace hL2 := h9L
        refine lv_istore (lv' := [(16, .int (tkn (pt R k))), (13, .int (nI k)), (0, .ref (α 0)), (1, .ref (lm α 0)), (2, .ref (lm α 1)), (3, .ref (lm α 2)), (4, .ref (lm α 3)), (5, .ref (ln α 0)), (6, .ref (ln α 1)), (7, .ref (ln α 2)), (9, .int (nI j)), (12, .int 1), (14, .int tr9), (15, .int (nI k))]) hx hb dL_would_212 hl (by decide) rfl (fun ls hl => ?_)
        refine lv_iload hx hb dL_would_214 (lv_at hl 12 rfl) ?_
        refine lv_if_ge (tgt := 238) hx hb dL_would_216 (by decide) (fun c15 => ?_) (fun c15 => ?_)
        · refine lv_iload hx hb dL_would_238 (lv_at hl 12 rfl) ?_
          refine lv_istore (lv' := [(14, .int tr9), (16, .int (tkn (pt R k))), (13, .int (nI k)), (0, .ref (α 0)), (1, .ref (lm α 0)), (2, .ref (lm α 1)), (3, .ref (lm α 2)), (4, .ref (lm α 3)), (5, .ref (ln α 0)), (6, .ref (ln α 1)), (7, .ref (ln α 2)), (9, .int (nI j)), (12, .int 1), (15, .int (nI k))]) hx hb dL_would_240 hl (by decide) rfl (fun ls hl => ?_)
          refine lv_iinc (v := nI (k + 1)) (lv' := [(15, .int (nI (k + 1))), (14, .int tr9), (16, .int (tkn (pt R k))), (13, .int (nI k)), (0, .ref (α 0)), (1, .ref (lm α 0)), (2, .ref (lm α 1)), (3, .ref (lm α 2)), (4, .ref (lm α 3)), (5, .ref (ln α 0)), (6, .ref (ln α 1)), (7, .ref (ln α 2)), (9, .int (nI j)), (12, .int 1)]) hx hb dL_would_242 hl (k := 13) rfl (nI_1 k) (by decide) rfl (fun ls hl => ?_)
          refine lv_goto (tgt := 148) hx hb dL_would_245 (by decide) ?_
          exact ih148 (k + 1) (nI k) tr9 (pwv (pt R k)) H17 (by omega) (cl_c hcl (by omega) c9 c11) (ti_a htr c15) hO hL hL2 _ hS _ (lv_sub hl [4, 5, 6, 7, 8, 9, 10, 11, 12, 13, 3, 1, 0] rfl)
        refine lv_iload hx hb dL_would_219 (lv_at hl 0 rfl) ?_
        refine lv_if_le (tgt := 238) hx hb dL_would_221 (by decide) (fun c16 => ?_) (fun c16 => ?_)
        · refine lv_iload hx hb dL_would_238 (lv_at hl 12 rfl) ?_
          refine lv_istore (lv' := [(14, .int tr9), (16, .int (tkn (pt R k))), (13, .int (nI k)), (0, .ref (α 0)), (1, .ref (lm α 0)), (2, .ref (lm α 1)), (3, .ref (lm α 2)), (4, .ref (lm α 3)), (5, .ref (ln α 0)), (6, .ref (ln α 1)), (7, .ref (ln α 2)), (9, .int (nI j)), (12, .int 1), (15, .int (nI k))]) hx hb dL_would_240 hl (by decide) rfl (fun ls hl => ?_)
          refine lv_iinc (v := nI (k + 1)) (lv' := [(15, .int (nI (k + 1))), (14, .int tr9), (16, .int (tkn (pt R k))), (13, .int (nI k)), (0, .ref (α 0)), (1, .ref (lm α 0)), (2, .ref (lm α 1)), (3, .ref (lm α 2)), (4, .ref (lm α 3)), (5, .ref (ln α 0)), (6, .ref (ln α 1)), (7, .ref (ln α 2)), (9, .int (nI j)), (12, .int 1)]) hx hb dL_would_242 hl (k := 13) rfl (nI_1 k) (by decide) rfl (fun ls hl => ?_)
          refine lv_goto (tgt := 148) hx hb dL_would_245 (by decide) ?_
          exact ih148 (k + 1) (nI k) tr9 (pwv (pt R k)) H17 (by omega) (cl_c hcl (by omega) c9 c11) (ti_b htr c15 (fun _ => c16)) hO hL hL2 _ hS _ (lv_sub hl [4, 5, 6, 7, 8, 9, 10, 11, 12, 13, 3, 1, 0] rfl)
        refine lv_iload hx hb dL_would_224 (lv_at hl 13 rfl) ?_
        refine lv_bipush (v := 100) hx hb dL_would_226 (by decide) ?_
        refine lv_icmp_ge (tgt := 238) hx hb dL_would_228 (by decide) (fun c17 => ?_) (fun c17 => ?_)
        · refine lv_iload hx hb dL_would_238 (lv_at hl 12 rfl) ?_
          refine lv_istore (lv' := [(14, .int tr9), (16, .int (tkn (pt R k))), (13, .int (nI k)), (0, .ref (α 0)), (1, .ref (lm α 0)), (2, .ref (lm α 1)), (3, .ref (lm α 2)), (4, .ref (lm α 3)), (5, .ref (ln α 0)), (6, .ref (ln α 1)), (7, .ref (ln α 2)), (9, .int (nI j)), (12, .int 1), (15, .int (nI k))]) hx hb dL_would_240 hl (by decide) rfl (fun ls hl => ?_)
          refine lv_iinc (v := nI (k + 1)) (lv' := [(15, .int (nI (k + 1))), (14, .int tr9), (16, .int (tkn (pt R k))), (13, .int (nI k)), (0, .ref (α 0)), (1, .ref (lm α 0)), (2, .ref (lm α 1)), (3, .ref (lm α 2)), (4, .ref (lm α 3)), (5, .ref (ln α 0)), (6, .ref (ln α 1)), (7, .ref (ln α 2)), (9, .int (nI j)), (12, .int 1)]) hx hb dL_would_242 hl (k := 13) rfl (nI_1 k) (by decide) rfl (fun ls hl => ?_)
          refine lv_goto (tgt := 148) hx hb dL_would_245 (by decide) ?_
          exact ih148 (k + 1) (nI k) tr9 (pwv (pt R k)) H17 (by omega) (cl_c hcl (by omega) c9 c11) (ti_b htr c15 (fun q => absurd (nI_ge100 (by omega) c17) (by omega))) hO hL hL2 _ hS _ (lv_sub hl [4, 5, 6, 7, 8, 9, 10, 11, 12, 13, 3, 1, 0] rfl)
        refine lv_iload hx hb dL_would_231 (lv_at hl 13 rfl) ?_
        refine lv_iconst (v := 1) hx hb dL_would_233 (by decide) ?_
        refine lv_iadd hx hb dL_would_234 ?_
        rw [show nI k + (1 : Int32) = nI (k + 1) from nI_add k 1]
        refine lv_goto (tgt := 240) hx hb dL_would_235 (by decide) ?_
        refine lv_istore (lv' := [(14, .int (nI (k + 1))), (16, .int (tkn (pt R k))), (13, .int (nI k)), (0, .ref (α 0)), (1, .ref (lm α 0)), (2, .ref (lm α 1)), (3, .ref (lm α 2)), (4, .ref (lm α 3)), (5, .ref (ln α 0)), (6, .ref (ln α 1)), (7, .ref (ln α 2)), (9, .int (nI j)), (12, .int 1), (15, .int (nI k))]) hx hb dL_would_240 hl (by decide) rfl (fun ls hl => ?_)
        refine lv_iinc (v := nI (k + 1)) (lv' := [(15, .int (nI (k + 1))), (14, .int (nI (k + 1))), (16, .int (tkn (pt R k))), (13, .int (nI k)), (0, .ref (α 0)), (1, .ref (lm α 0)), (2, .ref (lm α 1)), (3, .ref (lm α 2)), (4, .ref (lm α 3)), (5, .ref (ln α 0)), (6, .ref (ln α 1)), (7, .ref (ln α 2)), (9, .int (nI j)), (12, .int 1)]) hx hb dL_would_242 hl (k := 13) rfl (nI_1 k) (by decide) rfl (fun ls hl => ?_)
        refine lv_goto (tgt := 148) hx hb dL_would_245 (by decide) ?_
        exact ih148 (k + 1) (nI k) (nI (k + 1)) (pwv (pt R k)) H17 (by omega) (cl_c hcl (by omega) c9 c11) (ti_d htr c15 c16 (nI_lt100 (by omega) c17)) hO hL hL2 _ hS _ (lv_sub hl [4, 5, 6, 7, 8, 9, 10, 11, 12, 13, 3, 1, 0] rfl)
      refine lv_iload hx hb dL_would_161 (lv_at hl 11 rfl) ?_
      refine lv_if_ge (tgt := 248) hx hb dL_would_163 (by decide) (fun c18 => ?_) (fun c18 => ?_)
      · have hO9 := hO
        refine lv_iload hx hb dL_would_248 (lv_at hl 9 rfl) ?_
        refine lv_if_eq (tgt := 277) hx hb dL_would_250 (by decide) (fun c19 => absurd c19 (by decide)) (fun c19 => ?_)
        refine lv_aload_n hx hb dL_would_253 rfl (lv_at hl 0 rfl) ?_
        refine lv_iload hx hb dL_would_254 (lv_at hl 8 rfl) ?_
        refine dp_Vi hF hK hN (n_X5_closeIn l D G α R j _ hα hO hg hj) (cwV 1 hts gL_would_X5_closeIn rfl rfl rfl (by decide +kernel) ⟨Nat.le_of_ble_eq_true rfl, Nat.le_of_ble_eq_true rfl⟩) (ob_recv hK hO) hS (fun q h => T_U q (A5_T q h)) [] rfl rfl hl.1 (Nat.le_of_ble_eq_true rfl) dL_would_256 ⟨Nat.le_of_ble_eq_true rfl, Nat.le_of_ble_eq_true rfl⟩ (fun rH18 H18 locs hp hzH18 hkH18 hS => ?_)
        obtain ⟨rfl, h9O⟩ := hp
        replace hO := h9O
        replace hL := hL.o5 hα hkH18
        replace hL2 := hL2.n5 hα hkH18
        refine lv_iload hx hb dL_would_259 (lv_at hl 10 rfl) ?_
        refine lv_icmp_ne (tgt := 277) hx hb dL_would_261 (by decide) (fun c20 => absurd c20 (fun q => q (cl_e hj hcl (by omega) (Or.inr (Int32.not_lt.mp c9))))) (fun c20 => ?_)
        refine lv_aload_n hx hb dL_would_264 rfl (lv_at hl 0 rfl) ?_
        obtain ⟨RS, kp, sv, n, F, len, hn6, hl6, w, RT, hw, hD⟩ := hO
        refine dp_Vi hF hK hN (c_X5_nextTrip l D G α w R RT RS kp sv n F len _ hα hw hD (gd_bz hg) (gd_mono hg) hn6 hl6 (fun k _ => gd_mono (gd_pt hg k))) (cwV 0 hts gL_would_X5_nextTrip rfl rfl rfl (by decide +kernel) ⟨Nat.le_of_ble_eq_true rfl, Nat.le_of_ble_eq_true rfl⟩) (dp_recv hK hD.1 rfl) hS (fun q h => T_U q (A5_T q h)) [] rfl rfl hl.1 (Nat.le_of_ble_eq_true rfl) dL_would_265 ⟨Nat.le_of_ble_eq_true rfl, Nat.le_of_ble_eq_true rfl⟩ (fun rH19 H19 locs hp hzH19 hkH19 hS => ?_)
        obtain ⟨rfl, h9D⟩ := hp
        have hO : OB D G α R H19 := ⟨RS, kp, sv, n, F, len, hn6, hl6, h9D⟩
        replace hL := hL.o5 hα hkH19
        replace hL2 := hL2.n5 hα hkH19
        refine lv_iload hx hb dL_would_268 (lv_at hl 11 rfl) ?_
        refine lv_icmp_ne (tgt := 277) hx hb dL_would_270 (by decide) (fun c21 => absurd c21 (fun q => q (ti_e htr (Or.inr c18)))) (fun c21 => ?_)
        refine lv_iconst (v := 1) hx hb dL_would_273 (by decide) ?_
        refine lv_goto (tgt := 278) hx hb dL_would_274 (by decide) ?_
        exact W.zret (ty := .boolean) hx hb hr rfl (fun t ht hW => ⟨⟨1, H19, rfl, ⟨rfl, hO, _, _, hL, hL2⟩, ht⟩, hS.F ht⟩) hS.2.2 dL_would_278
      refine lv_iload hx hb dL_would_166 (lv_at hl 12 rfl) ?_
      refine lv_bipush (v := 100) hx hb dL_would_168 (by decide) ?_
      refine lv_icmp_ge (tgt := 248) hx hb dL_would_170 (by decide) (fun c22 => ?_) (fun c22 => ?_)
      · have hO9 := hO
        refine lv_iload hx hb dL_would_248 (lv_at hl 9 rfl) ?_
        refine lv_if_eq (tgt := 277) hx hb dL_would_250 (by decide) (fun c23 => absurd c23 (by decide)) (fun c23 => ?_)
        refine lv_aload_n hx hb dL_would_253 rfl (lv_at hl 0 rfl) ?_
        refine lv_iload hx hb dL_would_254 (lv_at hl 8 rfl) ?_
        refine dp_Vi hF hK hN (n_X5_closeIn l D G α R j _ hα hO hg hj) (cwV 1 hts gL_would_X5_closeIn rfl rfl rfl (by decide +kernel) ⟨Nat.le_of_ble_eq_true rfl, Nat.le_of_ble_eq_true rfl⟩) (ob_recv hK hO) hS (fun q h => T_U q (A5_T q h)) [] rfl rfl hl.1 (Nat.le_of_ble_eq_true rfl) dL_would_256 ⟨Nat.le_of_ble_eq_true rfl, Nat.le_of_ble_eq_true rfl⟩ (fun rH20 H20 locs hp hzH20 hkH20 hS => ?_)
        obtain ⟨rfl, h9O⟩ := hp
        replace hO := h9O
        replace hL := hL.o5 hα hkH20
        replace hL2 := hL2.n5 hα hkH20
        refine lv_iload hx hb dL_would_259 (lv_at hl 10 rfl) ?_
        refine lv_icmp_ne (tgt := 277) hx hb dL_would_261 (by decide) (fun c24 => absurd c24 (fun q => q (cl_e hj hcl (by omega) (Or.inr (Int32.not_lt.mp c9))))) (fun c24 => ?_)
        refine lv_aload_n hx hb dL_would_264 rfl (lv_at hl 0 rfl) ?_
        obtain ⟨RS, kp, sv, n, F, len, hn6, hl6, w, RT, hw, hD⟩ := hO
        refine dp_Vi hF hK hN (c_X5_nextTrip l D G α w R RT RS kp sv n F len _ hα hw hD (gd_bz hg) (gd_mono hg) hn6 hl6 (fun k _ => gd_mono (gd_pt hg k))) (cwV 0 hts gL_would_X5_nextTrip rfl rfl rfl (by decide +kernel) ⟨Nat.le_of_ble_eq_true rfl, Nat.le_of_ble_eq_true rfl⟩) (dp_recv hK hD.1 rfl) hS (fun q h => T_U q (A5_T q h)) [] rfl rfl hl.1 (Nat.le_of_ble_eq_true rfl) dL_would_265 ⟨Nat.le_of_ble_eq_true rfl, Nat.le_of_ble_eq_true rfl⟩ (fun rH21 H21 locs hp hzH21 hkH21 hS => ?_)
        obtain ⟨rfl, h9D⟩ := hp
        have hO : OB D G α R H21 := ⟨RS, kp, sv, n, F, len, hn6, hl6, h9D⟩
        replace hL := hL.o5 hα hkH21
        replace hL2 := hL2.n5 hα hkH21
        refine lv_iload hx hb dL_would_268 (lv_at hl 11 rfl) ?_
        refine lv_icmp_ne (tgt := 277) hx hb dL_would_270 (by decide) (fun c25 => absurd c25 (fun q => q (ti_e htr (Or.inl (nI_ge100 (by omega) c22))))) (fun c25 => ?_)
        refine lv_iconst (v := 1) hx hb dL_would_273 (by decide) ?_
        refine lv_goto (tgt := 278) hx hb dL_would_274 (by decide) ?_
        exact W.zret (ty := .boolean) hx hb hr rfl (fun t ht hW => ⟨⟨1, H21, rfl, ⟨rfl, hO, _, _, hL, hL2⟩, ht⟩, hS.F ht⟩) hS.2.2 dL_would_278
      refine lv_iload hx hb dL_would_173 (lv_at hl 10 rfl) ?_
      refine lv_if_ge (tgt := 197) hx hb dL_would_175 (by decide) (fun c26 => ?_) (fun c26 => absurd (Int32.not_lt.mp c9) c26)
      refine lv_iload hx hb dL_would_197 (lv_at hl 10 rfl) ?_
      refine lv_istore (lv' := [(13, .int cl9), (0, .ref (α 0)), (1, .ref (lm α 0)), (2, .ref (lm α 1)), (3, .ref (lm α 2)), (4, .ref (lm α 3)), (5, .ref (ln α 0)), (6, .ref (ln α 1)), (7, .ref (ln α 2)), (9, .int (nI j)), (12, .int 1), (14, .int tr9), (15, .int (nI k))]) hx hb dL_would_199 hl (by decide) rfl (fun ls hl => ?_)
      refine lv_aload hx hb dL_would_201 (lv_at hl 6 rfl) ?_
      refine lv_aload hx hb dL_would_203 (lv_at hl 7 rfl) ?_
      refine lv_aload hx hb dL_would_205 (lv_at hl 8 rfl) ?_
      refine lv_aload hx hb dL_would_207 (lv_at hl 5 rfl) ?_
      refine dp_Si hF hK hN (c_L_ticks l D G (ln α) (pt R k) P9  _ hν hL2 (gd_pt hg k) (ph_pt hg hph k)) (va_cwS 4 hts gL_would_L_ticks rfl rfl rfl (by decide +kernel) ⟨Nat.le_of_ble_eq_true rfl, Nat.le_of_ble_eq_true rfl⟩) hS ln_U [] rfl rfl hl.1 (Nat.le_of_ble_eq_true rfl) dL_would_209 ⟨Nat.le_of_ble_eq_true rfl, Nat.le_of_ble_eq_true rfl⟩ (fun rH22 H22 locs hp hzH22 hkH22 hS => ?_)
      replace hO := hO.kn hα hkH22
      obtain ⟨rfl, h9L⟩ := hp
      replace hL := hL.mix hα h9L hkH22
      replace hL2 := h9L
      refine lv_istore (lv' := [(16, .int (tkn (pt R k))), (13, .int cl9), (0, .ref (α 0)), (1, .ref (lm α 0)), (2, .ref (lm α 1)), (3, .ref (lm α 2)), (4, .ref (lm α 3)), (5, .ref (ln α 0)), (6, .ref (ln α 1)), (7, .ref (ln α 2)), (9, .int (nI j)), (12, .int 1), (14, .int tr9), (15, .int (nI k))]) hx hb dL_would_212 hl (by decide) rfl (fun ls hl => ?_)
      refine lv_iload hx hb dL_would_214 (lv_at hl 12 rfl) ?_
      refine lv_if_ge (tgt := 238) hx hb dL_would_216 (by decide) (fun c27 => absurd c27 c18) (fun c27 => ?_)
      refine lv_iload hx hb dL_would_219 (lv_at hl 0 rfl) ?_
      refine lv_if_le (tgt := 238) hx hb dL_would_221 (by decide) (fun c28 => ?_) (fun c28 => ?_)
      · refine lv_iload hx hb dL_would_238 (lv_at hl 12 rfl) ?_
        refine lv_istore (lv' := [(14, .int tr9), (16, .int (tkn (pt R k))), (13, .int cl9), (0, .ref (α 0)), (1, .ref (lm α 0)), (2, .ref (lm α 1)), (3, .ref (lm α 2)), (4, .ref (lm α 3)), (5, .ref (ln α 0)), (6, .ref (ln α 1)), (7, .ref (ln α 2)), (9, .int (nI j)), (12, .int 1), (15, .int (nI k))]) hx hb dL_would_240 hl (by decide) rfl (fun ls hl => ?_)
        refine lv_iinc (v := nI (k + 1)) (lv' := [(15, .int (nI (k + 1))), (14, .int tr9), (16, .int (tkn (pt R k))), (13, .int cl9), (0, .ref (α 0)), (1, .ref (lm α 0)), (2, .ref (lm α 1)), (3, .ref (lm α 2)), (4, .ref (lm α 3)), (5, .ref (ln α 0)), (6, .ref (ln α 1)), (7, .ref (ln α 2)), (9, .int (nI j)), (12, .int 1)]) hx hb dL_would_242 hl (k := 13) rfl (nI_1 k) (by decide) rfl (fun ls hl => ?_)
        refine lv_goto (tgt := 148) hx hb dL_would_245 (by decide) ?_
        exact ih148 (k + 1) cl9 tr9 (pwv (pt R k)) H22 (by omega) (cl_a hcl (Int32.not_lt.mp c9)) (ti_b htr c18 (fun _ => c28)) hO hL hL2 _ hS _ (lv_sub hl [4, 5, 6, 7, 8, 9, 10, 11, 12, 13, 3, 1, 0] rfl)
      refine lv_iload hx hb dL_would_224 (lv_at hl 13 rfl) ?_
      refine lv_bipush (v := 100) hx hb dL_would_226 (by decide) ?_
      refine lv_icmp_ge (tgt := 238) hx hb dL_would_228 (by decide) (fun c29 => absurd c29 c22) (fun c29 => ?_)
      refine lv_iload hx hb dL_would_231 (lv_at hl 13 rfl) ?_
      refine lv_iconst (v := 1) hx hb dL_would_233 (by decide) ?_
      refine lv_iadd hx hb dL_would_234 ?_
      rw [show nI k + (1 : Int32) = nI (k + 1) from nI_add k 1]
      refine lv_goto (tgt := 240) hx hb dL_would_235 (by decide) ?_
      refine lv_istore (lv' := [(14, .int (nI (k + 1))), (16, .int (tkn (pt R k))), (13, .int cl9), (0, .ref (α 0)), (1, .ref (lm α 0)), (2, .ref (lm α 1)), (3, .ref (lm α 2)), (4, .ref (lm α 3)), (5, .ref (ln α 0)), (6, .ref (ln α 1)), (7, .ref (ln α 2)), (9, .int (nI j)), (12, .int 1), (15, .int (nI k))]) hx hb dL_would_240 hl (by decide) rfl (fun ls hl => ?_)
      refine lv_iinc (v := nI (k + 1)) (lv' := [(15, .int (nI (k + 1))), (14, .int (nI (k + 1))), (16, .int (tkn (pt R k))), (13, .int cl9), (0, .ref (α 0)), (1, .ref (lm α 0)), (2, .ref (lm α 1)), (3, .ref (lm α 2)), (4, .ref (lm α 3)), (5, .ref (ln α 0)), (6, .ref (ln α 1)), (7, .ref (ln α 2)), (9, .int (nI j)), (12, .int 1)]) hx hb dL_would_242 hl (k := 13) rfl (nI_1 k) (by decide) rfl (fun ls hl => ?_)
      refine lv_goto (tgt := 148) hx hb dL_would_245 (by decide) ?_
      exact ih148 (k + 1) cl9 (nI (k + 1)) (pwv (pt R k)) H22 (by omega) (cl_a hcl (Int32.not_lt.mp c9)) (ti_d htr c18 c28 (nI_lt100 (by omega) c22)) hO hL hL2 _ hS _ (lv_sub hl [4, 5, 6, 7, 8, 9, 10, 11, 12, 13, 3, 1, 0] rfl)
  exact loop148 501 0 ((-1)) ((-1)) ((pwv (usp R j (nI (4700 + a))))) H12 rfl (Or.inl ⟨rfl, fun q h => by omega⟩) (Or.inl ⟨rfl, fun q h => by omega⟩) hO hL hL2 _ hS _ (lv_sub hl [7, 8, 9, 10, 11, 12, 13, 14, 6, 3, 2, 1, 0] rfl)
