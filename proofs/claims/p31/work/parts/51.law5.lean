set_option maxHeartbeats 600000 in
set_option maxRecDepth 100000 in
theorem c_L_isFair (l : Launch) (D : va_G) (G : Nat → ClassId) (α : Nat → Nat) (R P : Nat → Int32) (j : Nat) (H : Heap) (hα : inj 115 α) (hO : OB D G α R H) (hL : LB D G (lm α) R P H) (hg : gd R) (hph : ph R) (hj : j < 3) : Met l yL_isFair wsL_isFair ({ frames := 5, cells := 0, slots := 0, locals := 117 } : Room) (va_Pc [.ref (α 0), .ref (lm α 0), .ref (lm α 1), .ref (lm α 3), .int (nI j)] (CX D G H)) (QI (AT α) (fun r h => 1 = r ∧ OB D G α R h ∧ ∃ P1, LB D G (lm α) R P1 h)) 0 0 (AT α) := by
  refine Met.ofW (cc := cL_isFair) (maxL := 12) (ret := (some .boolean)) (by decide) rfl ?_
  intro p e s m args below meth c s₁ B0 hml hv
  obtain ⟨rfl, rfl, hK, hN⟩ := hv
  have hx := B0.exec
  have hb := B0.bytes
  have hr := B0.returns
  have hts := atoms_spec (ws := wsL_isFair) B0.pre
  have hown : s.vm.findClass RL = some m.cls := findClass_of_methodNamed B0.named
  have hlocks := B0.notSynchronized
  have hF : CallFix p m c cL_isFair 12 s ([.ref (α 0), .ref (lm α 0), .ref (lm α 1), .ref (lm α 3), .int (nI j)] : List Value).toArray wsL_isFair RL := ⟨hx, hb, hml, hown, hts⟩
  have hS : va_S (AT α) s.heap s.heap [] := va_S.rf
  have hl := lv_entry ([.ref (α 0), .ref (lm α 0), .ref (lm α 1), .ref (lm α 3), .int (nI j)]) (n := 12) (Nat.le_of_ble_eq_true rfl)
  rw [lg_entry_eq]
  generalize (lg_sl ([.ref (α 0), .ref (lm α 0), .ref (lm α 1), .ref (lm α 3), .int (nI j)]) ++ List.replicate (12 - (lg_sl ([.ref (α 0), .ref (lm α 0), .ref (lm α 1), .ref (lm α 3), .int (nI j)])).length) Slot.unset).toArray = ls at hl ⊢
  have hl : lv_has ls 12 [(0, .ref (α 0)), (1, .ref (lm α 0)), (2, .ref (lm α 1)), (3, .ref (lm α 3)), (4, .int (nI j))] := hl
  have hμ := lm_inj hα
  refine lv_aload_n hx hb dL_isFair_0 rfl (lv_at hl 0 rfl) ?_
  refine lv_iload hx hb dL_isFair_1 (lv_at hl 4 rfl) ?_
  refine dp_Vi hF hK hN (n_X5_fairSpeed l D G α R j _ hα hO hg hj) (cwV 1 hts gL_isFair_X5_fairSpeed rfl rfl rfl (by decide +kernel) ⟨Nat.le_of_ble_eq_true rfl, Nat.le_of_ble_eq_true rfl⟩) (ob_recv hK hO) hS A5_T [] rfl rfl hl.1 (Nat.le_of_ble_eq_true rfl) dL_isFair_3 ⟨Nat.le_of_ble_eq_true rfl, Nat.le_of_ble_eq_true rfl⟩ (fun rH1 H1 locs hp hzH1 hkH1 hS => ?_)
  obtain ⟨rfl, h9O⟩ := hp
  replace hO := h9O
  replace hL := hL.o5 hα hkH1
  refine lv_istore (lv' := [(5, .int (fair R j)), (0, .ref (α 0)), (1, .ref (lm α 0)), (2, .ref (lm α 1)), (3, .ref (lm α 3)), (4, .int (nI j))]) hx hb dL_isFair_6 hl (by decide) rfl (fun ls hl => ?_)
  refine lv_aload_n hx hb dL_isFair_8 rfl (lv_at hl 2 rfl) ?_
  refine lv_bipush (v := 10) hx hb dL_isFair_9 (by decide) ?_
  refine lv_iload hx hb dL_isFair_11 (lv_at hl 5 rfl) ?_
  refine lv_imul hx hb dL_isFair_13 ?_
  rw [show (10 : Int32) * nI j = nI (10 * j) from pk_mul 10 j]
  refine lv_iconst (v := 4) hx hb dL_isFair_14 (by decide) ?_
  refine lv_iadd hx hb dL_isFair_15 ?_
  rw [show nI (10 * j) + (4 : Int32) = nI (10 * j + 4) from nI_add (10 * j) 4]
  refine ld_d hx hb hK hL.1 j 4 12 rfl hj (by decide) rfl dL_isFair_16 ?_
  refine lv_if_ne (tgt := 32) hx hb dL_isFair_17 (by decide) (fun c1 => ?_) (fun c1 => ?_)
  · refine lv_aload_n hx hb dL_isFair_32 rfl (lv_at hl 2 rfl) ?_
    refine lv_aload_n hx hb dL_isFair_33 rfl (lv_at hl 3 rfl) ?_
    refine dp_Si hF hK hN (c_L_load l D G (lm α) R P  _ hμ hL hg) (va_cwS 2 hts gL_isFair_L_load rfl rfl rfl (by decide +kernel) ⟨Nat.le_of_ble_eq_true rfl, Nat.le_of_ble_eq_true rfl⟩) hS nA_i [] rfl rfl hl.1 (Nat.le_of_ble_eq_true rfl) dL_isFair_34 ⟨Nat.le_of_ble_eq_true rfl, Nat.le_of_ble_eq_true rfl⟩ (fun rH2 H2 locs hp hzH2 hkH2 hS => ?_)
    obtain ⟨rfl, rfl⟩ := hp
    refine lv_aload_n hx hb dL_isFair_37 rfl (lv_at hl 2 rfl) ?_
    refine lv_bipush (v := 10) hx hb dL_isFair_38 (by decide) ?_
    refine lv_iload hx hb dL_isFair_40 (lv_at hl 5 rfl) ?_
    refine lv_imul hx hb dL_isFair_42 ?_
    rw [show (10 : Int32) * nI j = nI (10 * j) from pk_mul 10 j]
    refine ld_d hx hb hK hL.1 j 0 8 rfl hj (by decide) rfl dL_isFair_43 ?_
    refine lv_imul hx hb dL_isFair_44 ?_
    refine lv_aload_n hx hb dL_isFair_45 rfl (lv_at hl 2 rfl) ?_
    refine lv_iconst (v := 4) hx hb dL_isFair_46 (by decide) ?_
    refine ld_d hx hb hK hL.1 0 4 12 (by decide) (by decide) (by decide) rfl dL_isFair_47 ?_
    refine lv_aload_n hx hb dL_isFair_48 rfl (lv_at hl 2 rfl) ?_
    refine lv_iconst (v := 0) hx hb dL_isFair_49 (by decide) ?_
    refine ld_d hx hb hK hL.1 0 0 8 (by decide) (by decide) (by decide) rfl dL_isFair_50 ?_
    refine lv_imul hx hb dL_isFair_51 ?_
    refine lv_aload_n hx hb dL_isFair_52 rfl (lv_at hl 2 rfl) ?_
    refine lv_bipush (v := 14) hx hb dL_isFair_53 (by decide) ?_
    refine ld_d hx hb hK hL.1 1 4 12 (by decide) (by decide) (by decide) rfl dL_isFair_55 ?_
    refine lv_aload_n hx hb dL_isFair_56 rfl (lv_at hl 2 rfl) ?_
    refine lv_bipush (v := 10) hx hb dL_isFair_57 (by decide) ?_
    refine ld_d hx hb hK hL.1 1 0 8 (by decide) (by decide) (by decide) rfl dL_isFair_59 ?_
    refine lv_imul hx hb dL_isFair_60 ?_
    refine lv_iadd hx hb dL_isFair_61 ?_
    refine lv_aload_n hx hb dL_isFair_62 rfl (lv_at hl 2 rfl) ?_
    refine lv_bipush (v := 24) hx hb dL_isFair_63 (by decide) ?_
    refine ld_d hx hb hK hL.1 2 4 12 (by decide) (by decide) (by decide) rfl dL_isFair_65 ?_
    refine lv_aload_n hx hb dL_isFair_66 rfl (lv_at hl 2 rfl) ?_
    refine lv_bipush (v := 20) hx hb dL_isFair_67 (by decide) ?_
    refine ld_d hx hb hK hL.1 2 0 8 (by decide) (by decide) (by decide) rfl dL_isFair_69 ?_
    refine lv_imul hx hb dL_isFair_70 ?_
    refine lv_iadd hx hb dL_isFair_71 ?_
    rw [rat3 (gd_bz hg)]
    refine lv_idiv hx hb dL_isFair_72 (rat_0 hg hj c1) ?_
    refine lv_istore (lv' := [(6, .int (((ld R) * (R (8 + 10 * j))) / (rat R 3))), (5, .int (fair R j)), (0, .ref (α 0)), (1, .ref (lm α 0)), (2, .ref (lm α 1)), (3, .ref (lm α 3)), (4, .int (nI j))]) hx hb dL_isFair_73 hl (by decide) rfl (fun ls hl => ?_)
    refine lv_aload_n hx hb dL_isFair_75 rfl (lv_at hl 3 rfl) ?_
    refine lv_bipush (v := 10) hx hb dL_isFair_76 (by decide) ?_
    refine lv_iload hx hb dL_isFair_78 (lv_at hl 6 rfl) ?_
    refine lv_imul hx hb dL_isFair_80 ?_
    rw [show (10 : Int32) * nI j = nI (10 * j) from pk_mul 10 j]
    refine lv_iconst (v := 2) hx hb dL_isFair_81 (by decide) ?_
    refine lv_iadd hx hb dL_isFair_82 ?_
    rw [show nI (10 * j) + (2 : Int32) = nI (10 * j + 2) from nI_add (10 * j) 2]
    refine ld_d hx hb hK hL.1 j 2 10 rfl hj (by decide) rfl dL_isFair_83 ?_
    refine lv_istore (lv' := [(7, .int (R (10 + 10 * j))), (6, .int (((ld R) * (R (8 + 10 * j))) / (rat R 3))), (5, .int (fair R j)), (0, .ref (α 0)), (1, .ref (lm α 0)), (2, .ref (lm α 1)), (3, .ref (lm α 3)), (4, .int (nI j))]) hx hb dL_isFair_84 hl (by decide) rfl (fun ls hl => ?_)
    refine lv_iconst (v := (-1)) hx hb dL_isFair_86 (by decide) ?_
    refine lv_istore (lv' := [(8, .int (-1)), (7, .int (R (10 + 10 * j))), (6, .int (((ld R) * (R (8 + 10 * j))) / (rat R 3))), (5, .int (fair R j)), (0, .ref (α 0)), (1, .ref (lm α 0)), (2, .ref (lm α 1)), (3, .ref (lm α 3)), (4, .int (nI j))]) hx hb dL_isFair_87 hl (by decide) rfl (fun ls hl => ?_)
    refine lv_iconst (v := 0) hx hb dL_isFair_89 (by decide) ?_
    refine lv_istore (lv' := [(9, .int 0), (8, .int (-1)), (7, .int (R (10 + 10 * j))), (6, .int (((ld R) * (R (8 + 10 * j))) / (rat R 3))), (5, .int (fair R j)), (0, .ref (α 0)), (1, .ref (lm α 0)), (2, .ref (lm α 1)), (3, .ref (lm α 3)), (4, .int (nI j))]) hx hb dL_isFair_90 hl (by decide) rfl (fun ls hl => ?_)
    refine lv_sipush (v := 5300) hx hb dL_isFair_92 (by decide) ?_
    refine lv_istore (lv' := [(10, .int 5300), (9, .int 0), (8, .int (-1)), (7, .int (R (10 + 10 * j))), (6, .int (((ld R) * (R (8 + 10 * j))) / (rat R 3))), (5, .int (fair R j)), (0, .ref (α 0)), (1, .ref (lm α 0)), (2, .ref (lm α 1)), (3, .ref (lm α 3)), (4, .int (nI j))]) hx hb dL_isFair_95 hl (by decide) rfl (fun ls hl => ?_)
    have loop97 : ∀ (m9 : Nat) (x9 : Int32) (y9 : Int32) (bs9 : Int32) (ls9 : Int32) (P9 : Nat → Int32) (Hh : Heap) (_ : m9 ≤ 601) (_ : x9 = nI (4699 + m9)) (_ : bdI (fdf R j (ld R * R (8 + 10 * j) / rat R 3)) m9 bs9 ls9) (_ : OB D G α R Hh) (_ : LB D G (lm α) (usp R j y9) P9 Hh) (locs : List Loc) (_ : va_S (AT α) s.heap Hh locs) (ls : Array Slot) (_ : lv_has ls 12 [(0, .ref (α 0)), (1, .ref (lm α 0)), (2, .ref (lm α 1)), (3, .ref (lm α 3)), (4, .int (nI j)), (5, .int (fair R j)), (6, .int (ld R * R (8 + 10 * j) / rat R 3)), (7, .int (R (10 + 10 * j))), (8, .int bs9), (9, .int ls9), (10, .int x9)]), W p l e (headSpec wsL_isFair ({ frames := 5, cells := 0, slots := 0, locals := 117 } : Room)).room s m ([.ref (α 0), .ref (lm α 0), .ref (lm α 1), .ref (lm α 3), .int (nI j)] : List Value).toArray below meth c Hh locs 0 0 (MQ below (QI (AT α) (fun r h => 1 = r ∧ OB D G α R h ∧ ∃ P1, LB D G (lm α) R P1 h)) ([.ref (α 0), .ref (lm α 0), .ref (lm α 1), .ref (lm α 3), .int (nI j)] : List Value).toArray s 0 0 (AT α)) (F0 m 97 ls []) := by
      intro m9
      induction m9 with
      | zero =>
        intro x9 y9 bs9 ls9 P9 Hh hm9 hx9 hbd hO hL locs hS ls hl
        obtain rfl : x9 = nI 4699 := hx9
        refine lv_iload hx hb dL_isFair_97 (lv_at hl 10 rfl) ?_
        refine lv_sipush (v := 4700) hx hb dL_isFair_99 (by decide) ?_
        refine lv_icmp_lt (tgt := 191) hx hb dL_isFair_102 (by decide) (fun c2 => ?_) (fun c2 => absurd (nI_lt (a := 4699) (b := 4700) (by decide) (by decide)) c2)
        refine lv_aload_n hx hb dL_isFair_191 rfl (lv_at hl 1 rfl) ?_
        refine lv_bipush (v := 10) hx hb dL_isFair_192 (by decide) ?_
        refine lv_iload hx hb dL_isFair_194 (lv_at hl 4 rfl) ?_
        refine lv_imul hx hb dL_isFair_196 ?_
        rw [show (10 : Int32) * nI j = nI (10 * j) from pk_mul 10 j]
        refine lv_iconst (v := 2) hx hb dL_isFair_197 (by decide) ?_
        refine lv_iadd hx hb dL_isFair_198 ?_
        rw [show nI (10 * j) + (2 : Int32) = nI (10 * j + 2) from nI_add (10 * j) 2]
        refine lv_iload hx hb dL_isFair_199 (lv_at hl 7 rfl) ?_
        refine dp_iast (A := AT α) hx hb hK hL.1 (lm_T _ ⟨0, by decide, rfl⟩) hS 0 rfl (10 * j + 2) rfl (by have := (hj : j < 3); have := ((by decide) : 2 < 10); omega) (by decide) dL_isFair_201 (fun H3 locs hH3 hzH3 hkH3 hS => ?_)
        replace hO := hO.ad (i := 0) hα (by decide) hkH3
        have hL : LB D G (lm α) (upd (usp R j y9) (10 + 10 * j) (R (10 + 10 * j))) P9 H3 := hL.d (w := 2) hμ hj (by decide) rfl hH3 hkH3
        rw [usp_usp, usp_self] at hL
        refine lv_iload hx hb dL_isFair_202 (lv_at hl 5 rfl) ?_
        refine lv_iload hx hb dL_isFair_204 (lv_at hl 8 rfl) ?_
        refine lv_icmp_ne (tgt := 213) hx hb dL_isFair_206 (by decide) (fun c3 => absurd c3 (fun q => q (fair_e hg hj c1 hbd))) (fun c3 => ?_)
        refine lv_iconst (v := 1) hx hb dL_isFair_209 (by decide) ?_
        refine lv_goto (tgt := 214) hx hb dL_isFair_210 (by decide) ?_
        exact W.zret (ty := .boolean) hx hb hr rfl (fun t ht hW => ⟨⟨1, H3, rfl, ⟨rfl, hO, _, hL⟩, ht⟩, hS.F ht⟩) hS.2.2 dL_isFair_214
      | succ m9 ih97 =>
        intro x9 y9 bs9 ls9 P9 Hh hm9 hx9 hbd hO hL locs hS ls hl
        obtain rfl : x9 = nI (4700 + m9) := hx9.trans (congrArg nI (by omega))
        refine lv_iload hx hb dL_isFair_97 (lv_at hl 10 rfl) ?_
        refine lv_sipush (v := 4700) hx hb dL_isFair_99 (by decide) ?_
        refine lv_icmp_lt (tgt := 191) hx hb dL_isFair_102 (by decide) (fun c4 => absurd c4 (nI_nlt (a := 4700 + m9) (b := 4700) (by omega) (by omega))) (fun c4 => ?_)
        refine lv_aload_n hx hb dL_isFair_105 rfl (lv_at hl 1 rfl) ?_
        refine lv_bipush (v := 10) hx hb dL_isFair_106 (by decide) ?_
        refine lv_iload hx hb dL_isFair_108 (lv_at hl 4 rfl) ?_
        refine lv_imul hx hb dL_isFair_110 ?_
        rw [show (10 : Int32) * nI j = nI (10 * j) from pk_mul 10 j]
        refine lv_iconst (v := 2) hx hb dL_isFair_111 (by decide) ?_
        refine lv_iadd hx hb dL_isFair_112 ?_
        rw [show nI (10 * j) + (2 : Int32) = nI (10 * j + 2) from nI_add (10 * j) 2]
        refine lv_iload hx hb dL_isFair_113 (lv_at hl 10 rfl) ?_
        refine dp_iast (A := AT α) hx hb hK hL.1 (lm_T _ ⟨0, by decide, rfl⟩) hS 0 rfl (10 * j + 2) rfl (by have := (hj : j < 3); have := ((by decide) : 2 < 10); omega) (by decide) dL_isFair_115 (fun H4 locs hH4 hzH4 hkH4 hS => ?_)
        replace hO := hO.ad (i := 0) hα (by decide) hkH4
        have hL : LB D G (lm α) (upd (usp R j y9) (10 + 10 * j) (nI (4700 + m9))) P9 H4 := hL.d (w := 2) hμ hj (by decide) rfl hH4 hkH4
        rw [usp_usp] at hL
        have hgu := gd_usp (a := m9) hg hj (by omega)
        refine lv_aload_n hx hb dL_isFair_116 rfl (lv_at hl 1 rfl) ?_
        refine lv_aload_n hx hb dL_isFair_117 rfl (lv_at hl 2 rfl) ?_
        refine lv_aload_n hx hb dL_isFair_118 rfl (lv_at hl 3 rfl) ?_
        refine dp_Sv hF hK hN (c_L_powers l D G (lm α) (usp R j (nI (4700 + m9))) P9  _ hμ hL hgu) (va_cwS 3 hts gL_isFair_L_powers rfl rfl rfl (by decide +kernel) ⟨Nat.le_of_ble_eq_true rfl, Nat.le_of_ble_eq_true rfl⟩) hS lm_T [] rfl rfl hl.1 (Nat.le_of_ble_eq_true rfl) dL_isFair_119 ⟨Nat.le_of_ble_eq_true rfl, Nat.le_of_ble_eq_true rfl⟩ (fun H5 locs hp hzH5 hkH5 hS => ?_)
        replace hO := hO.km hα hkH5
        have h9L := hp
        replace hL := h9L
        refine lv_iload hx hb dL_isFair_122 (lv_at hl 8 rfl) ?_
        refine lv_if_lt (tgt := 142) hx hb dL_isFair_124 (by decide) (fun c5 => ?_) (fun c5 => ?_)
        · refine lv_iconst (v := 1) hx hb dL_isFair_142 (by decide) ?_
          refine lv_goto (tgt := 147) hx hb dL_isFair_143 (by decide) ?_
          refine lv_istore (lv' := [(11, .int 1), (0, .ref (α 0)), (1, .ref (lm α 0)), (2, .ref (lm α 1)), (3, .ref (lm α 3)), (4, .int (nI j)), (5, .int (fair R j)), (6, .int (ld R * R (8 + 10 * j) / rat R 3)), (7, .int (R (10 + 10 * j))), (8, .int bs9), (9, .int ls9), (10, .int (nI (4700 + m9)))]) hx hb dL_isFair_147 hl (by decide) rfl (fun ls hl => ?_)
          refine lv_iload hx hb dL_isFair_149 (lv_at hl 0 rfl) ?_
          refine lv_if_eq (tgt := 159) hx hb dL_isFair_151 (by decide) (fun c6 => absurd c6 (by decide)) (fun c6 => ?_)
          refine lv_iload hx hb dL_isFair_154 (lv_at hl 11 rfl) ?_
          refine lv_goto (tgt := 161) hx hb dL_isFair_156 (by decide) ?_
          refine lv_istore (lv' := [(8, .int (nI (4700 + m9))), (11, .int 1), (0, .ref (α 0)), (1, .ref (lm α 0)), (2, .ref (lm α 1)), (3, .ref (lm α 3)), (4, .int (nI j)), (5, .int (fair R j)), (6, .int (ld R * R (8 + 10 * j) / rat R 3)), (7, .int (R (10 + 10 * j))), (9, .int ls9), (10, .int (nI (4700 + m9)))]) hx hb dL_isFair_161 hl (by decide) rfl (fun ls hl => ?_)
          refine lv_iload hx hb dL_isFair_163 (lv_at hl 1 rfl) ?_
          refine lv_if_eq (tgt := 181) hx hb dL_isFair_165 (by decide) (fun c7 => absurd c7 (by decide)) (fun c7 => ?_)
          refine lv_aload_n hx hb dL_isFair_168 rfl (lv_at hl 5 rfl) ?_
          refine lv_iload hx hb dL_isFair_169 (lv_at hl 6 rfl) ?_
          refine dp_iald hx hb hK hL.2.2.2 0 rfl j rfl (by omega) (by decide) dL_isFair_171 ?_
          refine lv_iload hx hb dL_isFair_172 (lv_at hl 8 rfl) ?_
          refine lv_isub hx hb dL_isFair_174 ?_
          refine dp_Si hF hK hN (c_L_size l D G (((pwv (usp R j (nI (4700 + m9)))) j) - (ld R * R (8 + 10 * j) / rat R 3)) _) (va_cwS 1 hts gL_isFair_L_size rfl rfl rfl (by decide +kernel) ⟨Nat.le_of_ble_eq_true rfl, Nat.le_of_ble_eq_true rfl⟩) hS nA_i [] rfl rfl hl.1 (Nat.le_of_ble_eq_true rfl) dL_isFair_175 ⟨Nat.le_of_ble_eq_true rfl, Nat.le_of_ble_eq_true rfl⟩ (fun rH6 H6 locs hp hzH6 hkH6 hS => ?_)
          obtain ⟨rfl, rfl⟩ := hp
          refine lv_goto (tgt := 183) hx hb dL_isFair_178 (by decide) ?_
          rw [fdf_e hj]
          refine lv_istore (lv' := [(9, .int (fdf R j (ld R * R (8 + 10 * j) / rat R 3) m9)), (8, .int (nI (4700 + m9))), (11, .int 1), (0, .ref (α 0)), (1, .ref (lm α 0)), (2, .ref (lm α 1)), (3, .ref (lm α 3)), (4, .int (nI j)), (5, .int (fair R j)), (6, .int (ld R * R (8 + 10 * j) / rat R 3)), (7, .int (R (10 + 10 * j))), (10, .int (nI (4700 + m9)))]) hx hb dL_isFair_183 hl (by decide) rfl (fun ls hl => ?_)
          refine lv_iinc (v := nI (4699 + m9)) (lv' := [(10, .int (nI (4699 + m9))), (9, .int (fdf R j (ld R * R (8 + 10 * j) / rat R 3) m9)), (8, .int (nI (4700 + m9))), (11, .int 1), (0, .ref (α 0)), (1, .ref (lm α 0)), (2, .ref (lm α 1)), (3, .ref (lm α 3)), (4, .int (nI j)), (5, .int (fair R j)), (6, .int (ld R * R (8 + 10 * j) / rat R 3)), (7, .int (R (10 + 10 * j)))]) hx hb dL_isFair_185 hl (k := 11) rfl (by rw [show 4700 + m9 = (4699 + m9) + 1 by omega]; exact nI_dec _) (by decide) rfl (fun ls hl => ?_)
          refine lv_goto (tgt := 97) hx hb dL_isFair_188 (by decide) ?_
          exact ih97 (nI (4699 + m9)) (nI (4700 + m9)) (nI (4700 + m9)) (fdf R j (ld R * R (8 + 10 * j) / rat R 3) m9) (pwv (usp R j (nI (4700 + m9)))) H5 (by omega) rfl (bd_1 hbd c5) hO hL _ hS _ (lv_sub hl [4, 5, 6, 7, 8, 9, 10, 11, 2, 1, 0] rfl)
        refine lv_aload_n hx hb dL_isFair_127 rfl (lv_at hl 3 rfl) ?_
        refine lv_iload hx hb dL_isFair_128 (lv_at hl 4 rfl) ?_
        refine dp_iald hx hb hK hL.2.2.2 0 rfl j rfl (by omega) (by decide) dL_isFair_130 ?_
        refine lv_iload hx hb dL_isFair_131 (lv_at hl 6 rfl) ?_
        refine lv_isub hx hb dL_isFair_133 ?_
        refine dp_Si hF hK hN (c_L_size l D G (((pwv (usp R j (nI (4700 + m9)))) j) - (ld R * R (8 + 10 * j) / rat R 3)) _) (va_cwS 1 hts gL_isFair_L_size rfl rfl rfl (by decide +kernel) ⟨Nat.le_of_ble_eq_true rfl, Nat.le_of_ble_eq_true rfl⟩) hS nA_i [] rfl rfl hl.1 (Nat.le_of_ble_eq_true rfl) dL_isFair_134 ⟨Nat.le_of_ble_eq_true rfl, Nat.le_of_ble_eq_true rfl⟩ (fun rH7 H7 locs hp hzH7 hkH7 hS => ?_)
        obtain ⟨rfl, rfl⟩ := hp
        refine lv_iload hx hb dL_isFair_137 (lv_at hl 9 rfl) ?_
        refine lv_icmp_gt (tgt := 146) hx hb dL_isFair_139 (by decide) (fun c8 => ?_) (fun c8 => ?_)
        · refine lv_iconst (v := 0) hx hb dL_isFair_146 (by decide) ?_
          refine lv_istore (lv' := [(11, .int 0), (0, .ref (α 0)), (1, .ref (lm α 0)), (2, .ref (lm α 1)), (3, .ref (lm α 3)), (4, .int (nI j)), (5, .int (fair R j)), (6, .int (ld R * R (8 + 10 * j) / rat R 3)), (7, .int (R (10 + 10 * j))), (8, .int bs9), (9, .int ls9), (10, .int (nI (4700 + m9)))]) hx hb dL_isFair_147 hl (by decide) rfl (fun ls hl => ?_)
          refine lv_iload hx hb dL_isFair_149 (lv_at hl 0 rfl) ?_
          refine lv_if_eq (tgt := 159) hx hb dL_isFair_151 (by decide) (fun c9 => ?_) (fun c9 => absurd (by decide) c9)
          refine lv_iload hx hb dL_isFair_159 (lv_at hl 9 rfl) ?_
          refine lv_istore (lv' := [(8, .int bs9), (11, .int 0), (0, .ref (α 0)), (1, .ref (lm α 0)), (2, .ref (lm α 1)), (3, .ref (lm α 3)), (4, .int (nI j)), (5, .int (fair R j)), (6, .int (ld R * R (8 + 10 * j) / rat R 3)), (7, .int (R (10 + 10 * j))), (9, .int ls9), (10, .int (nI (4700 + m9)))]) hx hb dL_isFair_161 hl (by decide) rfl (fun ls hl => ?_)
          refine lv_iload hx hb dL_isFair_163 (lv_at hl 1 rfl) ?_
          refine lv_if_eq (tgt := 181) hx hb dL_isFair_165 (by decide) (fun c10 => ?_) (fun c10 => absurd (by decide) c10)
          refine lv_iload hx hb dL_isFair_181 (lv_at hl 10 rfl) ?_
          refine lv_istore (lv' := [(9, .int ls9), (8, .int bs9), (11, .int 0), (0, .ref (α 0)), (1, .ref (lm α 0)), (2, .ref (lm α 1)), (3, .ref (lm α 3)), (4, .int (nI j)), (5, .int (fair R j)), (6, .int (ld R * R (8 + 10 * j) / rat R 3)), (7, .int (R (10 + 10 * j))), (10, .int (nI (4700 + m9)))]) hx hb dL_isFair_183 hl (by decide) rfl (fun ls hl => ?_)
          refine lv_iinc (v := nI (4699 + m9)) (lv' := [(10, .int (nI (4699 + m9))), (9, .int ls9), (8, .int bs9), (11, .int 0), (0, .ref (α 0)), (1, .ref (lm α 0)), (2, .ref (lm α 1)), (3, .ref (lm α 3)), (4, .int (nI j)), (5, .int (fair R j)), (6, .int (ld R * R (8 + 10 * j) / rat R 3)), (7, .int (R (10 + 10 * j)))]) hx hb dL_isFair_185 hl (k := 11) rfl (by rw [show 4700 + m9 = (4699 + m9) + 1 by omega]; exact nI_dec _) (by decide) rfl (fun ls hl => ?_)
          refine lv_goto (tgt := 97) hx hb dL_isFair_188 (by decide) ?_
          exact ih97 (nI (4699 + m9)) (nI (4700 + m9)) bs9 ls9 (pwv (usp R j (nI (4700 + m9)))) H5 (by omega) rfl (bd_2 hbd c5 (by rw [fdf_e hj] at c8; exact c8)) hO hL _ hS _ (lv_sub hl [4, 5, 6, 7, 8, 9, 10, 11, 2, 1, 0] rfl)
        refine lv_iconst (v := 1) hx hb dL_isFair_142 (by decide) ?_
        refine lv_goto (tgt := 147) hx hb dL_isFair_143 (by decide) ?_
        refine lv_istore (lv' := [(11, .int 1), (0, .ref (α 0)), (1, .ref (lm α 0)), (2, .ref (lm α 1)), (3, .ref (lm α 3)), (4, .int (nI j)), (5, .int (fair R j)), (6, .int (ld R * R (8 + 10 * j) / rat R 3)), (7, .int (R (10 + 10 * j))), (8, .int bs9), (9, .int ls9), (10, .int (nI (4700 + m9)))]) hx hb dL_isFair_147 hl (by decide) rfl (fun ls hl => ?_)
        refine lv_iload hx hb dL_isFair_149 (lv_at hl 0 rfl) ?_
        refine lv_if_eq (tgt := 159) hx hb dL_isFair_151 (by decide) (fun c11 => absurd c11 (by decide)) (fun c11 => ?_)
        refine lv_iload hx hb dL_isFair_154 (lv_at hl 11 rfl) ?_
        refine lv_goto (tgt := 161) hx hb dL_isFair_156 (by decide) ?_
        refine lv_istore (lv' := [(8, .int (nI (4700 + m9))), (11, .int 1), (0, .ref (α 0)), (1, .ref (lm α 0)), (2, .ref (lm α 1)), (3, .ref (lm α 3)), (4, .int (nI j)), (5, .int (fair R j)), (6, .int (ld R * R (8 + 10 * j) / rat R 3)), (7, .int (R (10 + 10 * j))), (9, .int ls9), (10, .int (nI (4700 + m9)))]) hx hb dL_isFair_161 hl (by decide) rfl (fun ls hl => ?_)
        refine lv_iload hx hb dL_isFair_163 (lv_at hl 1 rfl) ?_
        refine lv_if_eq (tgt := 181) hx hb dL_isFair_165 (by decide) (fun c12 => absurd c12 (by decide)) (fun c12 => ?_)
        refine lv_aload_n hx hb dL_isFair_168 rfl (lv_at hl 5 rfl) ?_
        refine lv_iload hx hb dL_isFair_169 (lv_at hl 6 rfl) ?_
        refine dp_iald hx hb hK hL.2.2.2 0 rfl j rfl (by omega) (by decide) dL_isFair_171 ?_
        refine lv_iload hx hb dL_isFair_172 (lv_at hl 8 rfl) ?_
        refine lv_isub hx hb dL_isFair_174 ?_
        refine dp_Si hF hK hN (c_L_size l D G (((pwv (usp R j (nI (4700 + m9)))) j) - (ld R * R (8 + 10 * j) / rat R 3)) _) (va_cwS 1 hts gL_isFair_L_size rfl rfl rfl (by decide +kernel) ⟨Nat.le_of_ble_eq_true rfl, Nat.le_of_ble_eq_true rfl⟩) hS nA_i [] rfl rfl hl.1 (Nat.le_of_ble_eq_true rfl) dL_isFair_175 ⟨Nat.le_of_ble_eq_true rfl, Nat.le_of_ble_eq_true rfl⟩ (fun rH8 H8 locs hp hzH8 hkH8 hS => ?_)
        obtain ⟨rfl, rfl⟩ := hp
        refine lv_goto (tgt := 183) hx hb dL_isFair_178 (by decide) ?_
        rw [fdf_e hj]
        refine lv_istore (lv' := [(9, .int (fdf R j (ld R * R (8 + 10 * j) / rat R 3) m9)), (8, .int (nI (4700 + m9))), (11, .int 1), (0, .ref (α 0)), (1, .ref (lm α 0)), (2, .ref (lm α 1)), (3, .ref (lm α 3)), (4, .int (nI j)), (5, .int (fair R j)), (6, .int (ld R * R (8 + 10 * j) / rat R 3)), (7, .int (R (10 + 10 * j))), (10, .int (nI (4700 + m9)))]) hx hb dL_isFair_183 hl (by decide) rfl (fun ls hl => ?_)
        refine lv_iinc (v := nI (4699 + m9)) (lv' := [(10, .int (nI (4699 + m9))), (9, .int (fdf R j (ld R * R (8 + 10 * j) / rat R 3) m9)), (8, .int (nI (4700 + m9))), (11, .int 1), (0, .ref (α 0)), (1, .ref (lm α 0)), (2, .ref (lm α 1)), (3, .ref (lm α 3)), (4, .int (nI j)), (5, .int (fair R j)), (6, .int (ld R * R (8 + 10 * j) / rat R 3)), (7, .int (R (10 + 10 * j)))]) hx hb dL_isFair_185 hl (k := 11) rfl (by rw [show 4700 + m9 = (4699 + m9) + 1 by omega]; exact nI_dec _) (by decide) rfl (fun ls hl => ?_)
        refine lv_goto (tgt := 97) hx hb dL_isFair_188 (by decide) ?_
        exact ih97 (nI (4699 + m9)) (nI (4700 + m9)) (nI (4700 + m9)) (fdf R j (ld R * R (8 + 10 * j) / rat R 3) m9) (pwv (usp R j (nI (4700 + m9)))) H5 (by omega) rfl (bd_3 hbd (by omega) c5 (by rw [fdf_e hj] at c8; exact Int32.not_lt.mp c8)) hO hL _ hS _ (lv_sub hl [4, 5, 6, 7, 8, 9, 10, 11, 2, 1, 0] rfl)
    exact loop97 601 5300 (R (10 + 10 * j)) ((-1)) 0 P H1 (Nat.le_refl _) rfl (Or.inl ⟨rfl, rfl⟩) hO (by rw [usp_self]; exact hL) _ hS _ (lv_sub hl [6, 7, 8, 9, 10, 5, 4, 3, 2, 1, 0] rfl)
  refine lv_iload hx hb dL_isFair_20 (lv_at hl 0 rfl) ?_
  refine lv_iconst (v := (-1)) hx hb dL_isFair_22 (by decide) ?_
  refine lv_icmp_ne (tgt := 30) hx hb dL_isFair_23 (by decide) (fun c13 => absurd c13 (fun q => q (by rw [fair, if_pos c1]))) (fun c13 => ?_)
  refine lv_iconst (v := 1) hx hb dL_isFair_26 (by decide) ?_
  refine lv_goto (tgt := 31) hx hb dL_isFair_27 (by decide) ?_
  exact W.zret (ty := .boolean) hx hb hr rfl (fun t ht hW => ⟨⟨1, H1, rfl, ⟨rfl, hO, _, hL⟩, ht⟩, hS.F ht⟩) hS.2.2 dL_isFair_31
