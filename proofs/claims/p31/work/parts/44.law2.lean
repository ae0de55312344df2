set_option maxHeartbeats 600000 in
set_option maxRecDepth 100000 in
theorem c_L_powers (l : Launch) (D : va_G) (G : Nat → ClassId) (μ : Nat → Nat) (R P : Nat → Int32)  (H : Heap) (hμ : inj 4 μ) (hL : LB D G μ R P H) (hg : gd R) : Met l yL_powers wsL_powers ({ frames := 3, cells := 0, slots := 0, locals := 68 } : Room) (va_Pc [.ref (μ 0), .ref (μ 1), .ref (μ 3)] (CX D G H)) (QV (bA 4 μ) (fun h => LB D G μ R (pwv R) h)) 0 0 (bA 4 μ) := by
  refine Met.ofW (cc := cL_powers) (maxL := 7) (ret := none) (by decide) rfl ?_
  intro p e s m args below meth c s₁ B0 hml hv
  obtain ⟨rfl, rfl, hK, hN⟩ := hv
  have hx := B0.exec
  have hb := B0.bytes
  have hr := B0.returns
  have hts := atoms_spec (ws := wsL_powers) B0.pre
  have hown : s.vm.findClass RL = some m.cls := findClass_of_methodNamed B0.named
  have hlocks := B0.notSynchronized
  have hF : CallFix p m c cL_powers 7 s ([.ref (μ 0), .ref (μ 1), .ref (μ 3)] : List Value).toArray wsL_powers RL := ⟨hx, hb, hml, hown, hts⟩
  have hS : va_S (bA 4 μ) s.heap s.heap [] := va_S.rf
  have hl := lv_entry ([.ref (μ 0), .ref (μ 1), .ref (μ 3)]) (n := 7) (Nat.le_of_ble_eq_true rfl)
  rw [lg_entry_eq]
  generalize (lg_sl ([.ref (μ 0), .ref (μ 1), .ref (μ 3)]) ++ List.replicate (7 - (lg_sl ([.ref (μ 0), .ref (μ 1), .ref (μ 3)])).length) Slot.unset).toArray = ls at hl ⊢
  have hl : lv_has ls 7 [(0, .ref (μ 0)), (1, .ref (μ 1)), (2, .ref (μ 3))] := hl
  refine lv_aload_n hx hb dL_powers_0 rfl (lv_at hl 0 rfl) ?_
  refine lv_aload_n hx hb dL_powers_1 rfl (lv_at hl 1 rfl) ?_
  refine dp_Si hF hK hN (c_L_frequency l D G μ R P  _ hμ hL hg) (va_cwS 2 hts gL_powers_L_frequency rfl rfl rfl (by decide +kernel) ⟨Nat.le_of_ble_eq_true rfl, Nat.le_of_ble_eq_true rfl⟩) hS nA_i [] rfl rfl hl.1 (Nat.le_of_ble_eq_true rfl) dL_powers_2 ⟨Nat.le_of_ble_eq_true rfl, Nat.le_of_ble_eq_true rfl⟩ (fun rH1 H1 locs hp hzH1 hkH1 hS => ?_)
  obtain ⟨rfl, rfl⟩ := hp
  refine lv_istore_n (lv' := [(3, .int (fq R)), (0, .ref (μ 0)), (1, .ref (μ 1)), (2, .ref (μ 3))]) hx hb dL_powers_5 rfl hl (by decide) rfl (fun ls hl => ?_)
  refine lv_aload_n hx hb dL_powers_6 rfl (lv_at hl 1 rfl) ?_
  refine lv_iload_n hx hb dL_powers_7 rfl (lv_at hl 0 rfl) ?_
  refine dp_Si hF hK hN (c_L_together l D G μ R P (fq R) _ hμ hL hg) (va_cwS 2 hts gL_powers_L_together rfl rfl rfl (by decide +kernel) ⟨Nat.le_of_ble_eq_true rfl, Nat.le_of_ble_eq_true rfl⟩) hS nA_i [] rfl rfl hl.1 (Nat.le_of_ble_eq_true rfl) dL_powers_8 ⟨Nat.le_of_ble_eq_true rfl, Nat.le_of_ble_eq_true rfl⟩ (fun rH2 H2 locs hp hzH2 hkH2 hS => ?_)
  obtain ⟨rfl, rfl⟩ := hp
  refine lv_aload_n hx hb dL_powers_11 rfl (lv_at hl 1 rfl) ?_
  refine lv_aload_n hx hb dL_powers_12 rfl (lv_at hl 2 rfl) ?_
  refine dp_Si hF hK hN (c_L_load l D G μ R P  _ hμ hL hg) (va_cwS 2 hts gL_powers_L_load rfl rfl rfl (by decide +kernel) ⟨Nat.le_of_ble_eq_true rfl, Nat.le_of_ble_eq_true rfl⟩) hS nA_i [.int (tot R (fq R))] rfl rfl hl.1 (Nat.le_of_ble_eq_true rfl) dL_powers_13 ⟨Nat.le_of_ble_eq_true rfl, Nat.le_of_ble_eq_true rfl⟩ (fun rH3 H3 locs hp hzH3 hkH3 hS => ?_)
  obtain ⟨rfl, rfl⟩ := hp
  refine lv_isub hx hb dL_powers_16 ?_
  refine lv_istore (lv' := [(4, .int ((tot R (fq R)) - (ld R))), (3, .int (fq R)), (0, .ref (μ 0)), (1, .ref (μ 1)), (2, .ref (μ 3))]) hx hb dL_powers_17 hl (by decide) rfl (fun ls hl => ?_)
  refine lv_iconst (v := 1) hx hb dL_powers_19 (by decide) ?_
  refine lv_istore (lv' := [(5, .int 1), (4, .int ((tot R (fq R)) - (ld R))), (3, .int (fq R)), (0, .ref (μ 0)), (1, .ref (μ 1)), (2, .ref (μ 3))]) hx hb dL_powers_20 hl (by decide) rfl (fun ls hl => ?_)
  refine lv_iconst (v := 0) hx hb dL_powers_22 (by decide) ?_
  refine lv_istore (lv' := [(6, .int 0), (5, .int 1), (4, .int ((tot R (fq R)) - (ld R))), (3, .int (fq R)), (0, .ref (μ 0)), (1, .ref (μ 1)), (2, .ref (μ 3))]) hx hb dL_powers_23 hl (by decide) rfl (fun ls hl => ?_)
  have loop25 : ∀ (m9 : Nat) (i : Nat) (fi : Int32) (P9 : Nat → Int32) (Hh : Heap) (_ : i + m9 = 3) (_ : (fi = 1 ∧ ∀ q, q < i → R (12 + 10 * q) = 0) ∨ (fi = 0 ∧ ∃ q, q < i ∧ lw R = nI q)) (_ : ∀ q, q < i → P9 q = pw R q (fq R)) (_ : LB D G μ R P9 Hh) (locs : List Loc) (_ : va_S (bA 4 μ) s.heap Hh locs) (ls : Array Slot) (_ : lv_has ls 7 [(0, .ref (μ 0)), (1, .ref (μ 1)), (2, .ref (μ 3)), (3, .int (fq R)), (4, .int (tot R (fq R) - ld R)), (5, .int fi), (6, .int (nI i))]), W p l e (headSpec wsL_powers ({ frames := 3, cells := 0, slots := 0, locals := 68 } : Room)).room s m ([.ref (μ 0), .ref (μ 1), .ref (μ 3)] : List Value).toArray below meth c Hh locs 0 0 (MQ below (QV (bA 4 μ) (fun h => LB D G μ R (pwv R) h)) ([.ref (μ 0), .ref (μ 1), .ref (μ 3)] : List Value).toArray s 0 0 (bA 4 μ)) (F0 m 25 ls []) := by
    intro m9
    induction m9 with
    | zero =>
      intro i fi P9 Hh hin hfi hP hL locs hS ls hl
      refine lv_iload hx hb dL_powers_25 (lv_at hl 6 rfl) ?_
      refine lv_iconst (v := 3) hx hb dL_powers_27 (by decide) ?_
      refine lv_icmp_ge (tgt := 87) hx hb dL_powers_28 (by decide) (fun c1 => ?_) (fun c1 => absurd (nI_le (a := 3) (b := i) (by omega) (by omega)) c1)
      refine lv_aload_n hx hb dL_powers_87 rfl (lv_at hl 2 rfl) ?_
      refine lv_iconst (v := 3) hx hb dL_powers_88 (by decide) ?_
      refine lv_iload hx hb dL_powers_89 (lv_at hl 4 rfl) ?_
      refine lv_if_ge (tgt := 100) hx hb dL_powers_91 (by decide) (fun c2 => ?_) (fun c2 => ?_)
      · refine lv_iconst (v := 0) hx hb dL_powers_100 (by decide) ?_
        refine dp_iast (A := bA 4 μ) hx hb hK hL.2.2.2 (⟨3, by decide, rfl⟩ : bA 4 μ (μ 3)) hS 0 rfl (3) rfl (by decide) (by decide) dL_powers_101 (fun H4 locs hH4 hzH4 hkH4 hS => ?_)
        have hL : LB D G μ R (upd P9 3 0) H4 := hL.p hμ hH4 hkH4
        exact W.vret hx hb hr (fun t ht hW => ⟨⟨H4, rfl, hL.congr (fun _ _ => rfl) (pw_end (fun q hq => hP q (by omega)) (lk_p c2)), ht⟩, hS.F ht⟩) hS.2.2 dL_powers_102
      refine lv_iload hx hb dL_powers_94 (lv_at hl 4 rfl) ?_
      refine lv_ineg hx hb dL_powers_96 ?_
      refine lv_goto (tgt := 101) hx hb dL_powers_97 (by decide) ?_
      refine dp_iast (A := bA 4 μ) hx hb hK hL.2.2.2 (⟨3, by decide, rfl⟩ : bA 4 μ (μ 3)) hS 0 rfl (3) rfl (by decide) (by decide) dL_powers_101 (fun H5 locs hH5 hzH5 hkH5 hS => ?_)
      have hL : LB D G μ R (upd P9 3 (-(tot R (fq R) - ld R))) H5 := hL.p hμ hH5 hkH5
      exact W.vret hx hb hr (fun t ht hW => ⟨⟨H5, rfl, hL.congr (fun _ _ => rfl) (pw_end (fun q hq => hP q (by omega)) (lk_n hg (Int32.not_le.mp c2))), ht⟩, hS.F ht⟩) hS.2.2 dL_powers_102
    | succ m9 ih25 =>
      intro i fi P9 Hh hin hfi hP hL locs hS ls hl
      refine lv_iload hx hb dL_powers_25 (lv_at hl 6 rfl) ?_
      refine lv_iconst (v := 3) hx hb dL_powers_27 (by decide) ?_
      refine lv_icmp_ge (tgt := 87) hx hb dL_powers_28 (by decide) (fun c3 => absurd c3 (nI_ge (a := i) (b := 3) (by omega) (by omega))) (fun c3 => ?_)
      refine lv_aload_n hx hb dL_powers_31 rfl (lv_at hl 2 rfl) ?_
      refine lv_iload hx hb dL_powers_32 (lv_at hl 6 rfl) ?_
      refine lv_aload_n hx hb dL_powers_34 rfl (lv_at hl 0 rfl) ?_
      refine lv_iload hx hb dL_powers_35 (lv_at hl 6 rfl) ?_
      refine lv_iload_n hx hb dL_powers_37 rfl (lv_at hl 3 rfl) ?_
      refine dp_Si hF hK hN (c_L_gives l D G μ R P9 i (fq R) _ hμ hL hg (by omega)) (va_cwS 3 hts gL_powers_L_gives rfl rfl rfl (by decide +kernel) ⟨Nat.le_of_ble_eq_true rfl, Nat.le_of_ble_eq_true rfl⟩) hS nA_i [.int (nI i), .ref (μ 3)] rfl rfl hl.1 (Nat.le_of_ble_eq_true rfl) dL_powers_38 ⟨Nat.le_of_ble_eq_true rfl, Nat.le_of_ble_eq_true rfl⟩ (fun rH6 H6 locs hp hzH6 hkH6 hS => ?_)
      obtain ⟨rfl, rfl⟩ := hp
      refine dp_iast (A := bA 4 μ) hx hb hK hL.2.2.2 (⟨3, by decide, rfl⟩ : bA 4 μ (μ 3)) hS 0 rfl (i) rfl (by omega) (by decide) dL_powers_41 (fun H7 locs hH7 hzH7 hkH7 hS => ?_)
      have hL : LB D G μ R (upd P9 i (gv R i (fq R))) H7 := hL.p hμ hH7 hkH7
      refine lv_aload_n hx hb dL_powers_42 rfl (lv_at hl 0 rfl) ?_
      refine lv_bipush (v := 10) hx hb dL_powers_43 (by decide) ?_
      refine lv_iload hx hb dL_powers_45 (lv_at hl 6 rfl) ?_
      refine lv_imul hx hb dL_powers_47 ?_
      rw [show (10 : Int32) * nI i = nI (10 * i) from pk_mul 10 i]
      refine lv_iconst (v := 4) hx hb dL_powers_48 (by decide) ?_
      refine lv_iadd hx hb dL_powers_49 ?_
      rw [show nI (10 * i) + (4 : Int32) = nI (10 * i + 4) from nI_add (10 * i) 4]
      refine ld_d hx hb hK hL.1 i 4 12 rfl (by omega) (by decide) rfl dL_powers_50 ?_
      refine lv_iconst (v := 1) hx hb dL_powers_51 (by decide) ?_
      refine lv_icmp_ne (tgt := 81) hx hb dL_powers_52 (by decide) (fun c4 => ?_) (fun c4 => ?_)
      · refine lv_iinc (v := nI (i + 1)) (lv' := [(6, .int (nI (i + 1))), (0, .ref (μ 0)), (1, .ref (μ 1)), (2, .ref (μ 3)), (3, .int (fq R)), (4, .int (tot R (fq R) - ld R)), (5, .int fi)]) hx hb dL_powers_81 hl (k := 6) rfl (nI_1 i) (by decide) rfl (fun ls hl => ?_)
        refine lv_goto (tgt := 25) hx hb dL_powers_84 (by decide) ?_
        have h0 := ((gd_bz hg).1 i (by omega)).2.resolve_right c4
        exact ih25 (i + 1) fi (upd P9 i (gv R i (fq R))) H7 (by omega) (hfi.elim (fun q => Or.inl ⟨q.1, fun r hr => by rcases Nat.lt_or_ge r i with z | z; exact q.2 r z; rw [show r = i by omega]; exact h0⟩) (fun q => Or.inr ⟨q.1, q.2.elim (fun r z => ⟨r, by omega, z.2⟩)⟩)) (pw_s hP (pw_o (by omega) h0)) hL _ hS _ (lv_sub hl [1, 2, 3, 4, 5, 6, 0] rfl)
      refine lv_iload hx hb dL_powers_55 (lv_at hl 5 rfl) ?_
      refine lv_if_eq (tgt := 81) hx hb dL_powers_57 (by decide) (fun c5 => ?_) (fun c5 => ?_)
      · refine lv_iinc (v := nI (i + 1)) (lv' := [(6, .int (nI (i + 1))), (0, .ref (μ 0)), (1, .ref (μ 1)), (2, .ref (μ 3)), (3, .int (fq R)), (4, .int (tot R (fq R) - ld R)), (5, .int fi)]) hx hb dL_powers_81 hl (k := 6) rfl (nI_1 i) (by decide) rfl (fun ls hl => ?_)
        refine lv_goto (tgt := 25) hx hb dL_powers_84 (by decide) ?_
        obtain ⟨r, hr, hr2⟩ : ∃ q, q < i ∧ lw R = nI q := hfi.elim (fun q => absurd (q.1.symm.trans c5) (by decide)) (fun q => q.2)
        exact ih25 (i + 1) fi (upd P9 i (gv R i (fq R))) H7 (by omega) (Or.inr ⟨c5, r, by omega, hr2⟩) (pw_s hP (pw_hi (by omega) hr hr2)) hL _ hS _ (lv_sub hl [1, 2, 3, 4, 5, 6, 0] rfl)
      refine lv_aload_n hx hb dL_powers_60 rfl (lv_at hl 2 rfl) ?_
      refine lv_iload hx hb dL_powers_61 (lv_at hl 6 rfl) ?_
      refine lv_dup2_11 hx hb dL_powers_63 rfl rfl ?_
      refine dp_iald hx hb hK hL.2.2.2 0 rfl i rfl (by omega) (by decide) dL_powers_64 ?_
      refine lv_iload hx hb dL_powers_65 (lv_at hl 4 rfl) ?_
      refine lv_if_le (tgt := 75) hx hb dL_powers_67 (by decide) (fun c6 => ?_) (fun c6 => ?_)
      · refine lv_iconst (v := 0) hx hb dL_powers_75 (by decide) ?_
        refine lv_isub hx hb dL_powers_76 ?_
        refine dp_iast (A := bA 4 μ) hx hb hK hL.2.2.2 (⟨3, by decide, rfl⟩ : bA 4 μ (μ 3)) hS 0 rfl (i) rfl (by omega) (by decide) dL_powers_77 (fun H8 locs hH8 hzH8 hkH8 hS => ?_)
        have hL : LB D G μ R (upd (upd P9 i (gv R i (fq R))) i (((upd P9 i (gv R i (fq R))) i) - 0)) H8 := hL.p hμ hH8 hkH8
        refine lv_iconst (v := 0) hx hb dL_powers_78 (by decide) ?_
        refine lv_istore (lv' := [(5, .int 0), (0, .ref (μ 0)), (1, .ref (μ 1)), (2, .ref (μ 3)), (3, .int (fq R)), (4, .int (tot R (fq R) - ld R)), (6, .int (nI i))]) hx hb dL_powers_79 hl (by decide) rfl (fun ls hl => ?_)
        refine lv_iinc (v := nI (i + 1)) (lv' := [(6, .int (nI (i + 1))), (5, .int 0), (0, .ref (μ 0)), (1, .ref (μ 1)), (2, .ref (μ 3)), (3, .int (fq R)), (4, .int (tot R (fq R) - ld R))]) hx hb dL_powers_81 hl (k := 6) rfl (nI_1 i) (by decide) rfl (fun ls hl => ?_)
        refine lv_goto (tgt := 25) hx hb dL_powers_84 (by decide) ?_
        have hlw : nI i = lw R := hfi.elim (fun q => lw_i (by omega) q.2 (by rw [c4]; decide)) (fun q => absurd q.1 c5)
        exact ih25 (i + 1) 0 (upd (upd P9 i (gv R i (fq R))) i (((upd P9 i (gv R i (fq R))) i) - 0)) H8 (by omega) (Or.inr ⟨rfl, i, by omega, hlw.symm⟩) (pw_s2 hP (by rw [upd_eq, ← pw_lo hlw, mx_z c6])) hL _ hS _ (lv_sub hl [2, 3, 4, 5, 6, 1, 0] rfl)
      refine lv_iload hx hb dL_powers_70 (lv_at hl 4 rfl) ?_
      refine lv_goto (tgt := 76) hx hb dL_powers_72 (by decide) ?_
      refine lv_isub hx hb dL_powers_76 ?_
      refine dp_iast (A := bA 4 μ) hx hb hK hL.2.2.2 (⟨3, by decide, rfl⟩ : bA 4 μ (μ 3)) hS 0 rfl (i) rfl (by omega) (by decide) dL_powers_77 (fun H9 locs hH9 hzH9 hkH9 hS => ?_)
      have hL : LB D G μ R (upd (upd P9 i (gv R i (fq R))) i (((upd P9 i (gv R i (fq R))) i) - (tot R (fq R) - ld R))) H9 := hL.p hμ hH9 hkH9
      refine lv_iconst (v := 0) hx hb dL_powers_78 (by decide) ?_
      refine lv_istore (lv' := [(5, .int 0), (0, .ref (μ 0)), (1, .ref (μ 1)), (2, .ref (μ 3)), (3, .int (fq R)), (4, .int (tot R (fq R) - ld R)), (6, .int (nI i))]) hx hb dL_powers_79 hl (by decide) rfl (fun ls hl => ?_)
      refine lv_iinc (v := nI (i + 1)) (lv' := [(6, .int (nI (i + 1))), (5, .int 0), (0, .ref (μ 0)), (1, .ref (μ 1)), (2, .ref (μ 3)), (3, .int (fq R)), (4, .int (tot R (fq R) - ld R))]) hx hb dL_powers_81 hl (k := 6) rfl (nI_1 i) (by decide) rfl (fun ls hl => ?_)
      refine lv_goto (tgt := 25) hx hb dL_powers_84 (by decide) ?_
      have hlw : nI i = lw R := hfi.elim (fun q => lw_i (by omega) q.2 (by rw [c4]; decide)) (fun q => absurd q.1 c5)
      exact ih25 (i + 1) 0 (upd (upd P9 i (gv R i (fq R))) i (((upd P9 i (gv R i (fq R))) i) - (tot R (fq R) - ld R))) H9 (by omega) (Or.inr ⟨rfl, i, by omega, hlw.symm⟩) (pw_s2 hP (by rw [upd_eq, ← pw_lo hlw, mx_n c6])) hL _ hS _ (lv_sub hl [2, 3, 4, 5, 6, 1, 0] rfl)
  exact loop25 3 0 1 P s.heap rfl (Or.inl ⟨rfl, fun q h => by omega⟩) (fun q h => by omega) hL _ hS _ (lv_sub hl [4, 5, 6, 3, 2, 1, 0] rfl)

set_option maxHeartbeats 600000 in
set_option maxRecDepth 100000 in
theorem c_L_why (l : Launch) (D : va_G) (G : Nat → ClassId) (μ : Nat → Nat) (R P : Nat → Int32) (j : Nat) (H : Heap) (hμ : inj 4 μ) (hL : LB D G μ R P H) (hg : gd R) (hj : j < 3) (hph : ph R) : Met l yL_why wsL_why ({ frames := 3, cells := 0, slots := 0, locals := 68 } : Room) (va_Pc [.ref (μ 0), .ref (μ 1), .ref (μ 2), .int (nI j)] (CX D G H)) (QI nA (fun r h => H = h ∧ rsn R j = r)) 0 0 (nA) := by
  refine Met.ofW (cc := cL_why) (maxL := 6) (ret := (some .int)) (by decide) rfl ?_
  intro p e s m args below meth c s₁ B0 hml hv
  obtain ⟨rfl, rfl, hK, hN⟩ := hv
  have hx := B0.exec
  have hb := B0.bytes
  have hr := B0.returns
  have hts := atoms_spec (ws := wsL_why) B0.pre
  have hown : s.vm.findClass RL = some m.cls := findClass_of_methodNamed B0.named
  have hlocks := B0.notSynchronized
  have hF : CallFix p m c cL_why 6 s ([.ref (μ 0), .ref (μ 1), .ref (μ 2), .int (nI j)] : List Value).toArray wsL_why RL := ⟨hx, hb, hml, hown, hts⟩
  have hS : va_S (nA) s.heap s.heap [] := va_S.rf
  have hl := lv_entry ([.ref (μ 0), .ref (μ 1), .ref (μ 2), .int (nI j)]) (n := 6) (Nat.le_of_ble_eq_true rfl)
  rw [lg_entry_eq]
  generalize (lg_sl ([.ref (μ 0), .ref (μ 1), .ref (μ 2), .int (nI j)]) ++ List.replicate (6 - (lg_sl ([.ref (μ 0), .ref (μ 1), .ref (μ 2), .int (nI j)])).length) Slot.unset).toArray = ls at hl ⊢
  have hl : lv_has ls 6 [(0, .ref (μ 0)), (1, .ref (μ 1)), (2, .ref (μ 2)), (3, .int (nI j))] := hl
  refine lv_bipush (v := 10) hx hb dL_why_0 (by decide) ?_
  refine lv_iload_n hx hb dL_why_2 rfl (lv_at hl 3 rfl) ?_
  refine lv_imul hx hb dL_why_3 ?_
  rw [show (10 : Int32) * nI j = nI (10 * j) from pk_mul 10 j]
  refine lv_istore (lv' := [(4, .int (nI (10 * j))), (0, .ref (μ 0)), (1, .ref (μ 1)), (2, .ref (μ 2)), (3, .int (nI j))]) hx hb dL_why_4 hl (by decide) rfl (fun ls hl => ?_)
  refine lv_aload_n hx hb dL_why_6 rfl (lv_at hl 1 rfl) ?_
  refine lv_aload_n hx hb dL_why_7 rfl (lv_at hl 2 rfl) ?_
  refine dp_Si hF hK hN (c_L_frequency l D G μ R P  _ hμ hL hg) (va_cwS 2 hts gL_why_L_frequency rfl rfl rfl (by decide +kernel) ⟨Nat.le_of_ble_eq_true rfl, Nat.le_of_ble_eq_true rfl⟩) hS nA_i [] rfl rfl hl.1 (Nat.le_of_ble_eq_true rfl) dL_why_8 ⟨Nat.le_of_ble_eq_true rfl, Nat.le_of_ble_eq_true rfl⟩ (fun rH1 H1 locs hp hzH1 hkH1 hS => ?_)
  obtain ⟨rfl, rfl⟩ := hp
  refine lv_istore (lv' := [(5, .int (fq R)), (4, .int (nI (10 * j))), (0, .ref (μ 0)), (1, .ref (μ 1)), (2, .ref (μ 2)), (3, .int (nI j))]) hx hb dL_why_11 hl (by decide) rfl (fun ls hl => ?_)
  refine lv_aload_n hx hb dL_why_13 rfl (lv_at hl 2 rfl) ?_
  refine lv_iload hx hb dL_why_14 (lv_at hl 1 rfl) ?_
  refine lv_iconst (v := 3) hx hb dL_why_16 (by decide) ?_
  refine lv_iadd hx hb dL_why_17 ?_
  rw [show nI (10 * j) + (3 : Int32) = nI (10 * j + 3) from nI_add (10 * j) 3]
  refine ld_d hx hb hK hL.1 j 3 11 rfl hj (by decide) rfl dL_why_18 ?_
  refine lv_if_ne (tgt := 26) hx hb dL_why_19 (by decide) (fun c1 => ?_) (fun c1 => ?_)
  · refine lv_aload_n hx hb dL_why_26 rfl (lv_at hl 2 rfl) ?_
    refine lv_iload hx hb dL_why_27 (lv_at hl 1 rfl) ?_
    refine lv_iconst (v := 4) hx hb dL_why_29 (by decide) ?_
    refine lv_iadd hx hb dL_why_30 ?_
    rw [show nI (10 * j) + (4 : Int32) = nI (10 * j + 4) from nI_add (10 * j) 4]
    refine ld_d hx hb hK hL.1 j 4 12 rfl hj (by decide) rfl dL_why_31 ?_
    refine lv_iconst (v := 1) hx hb dL_why_32 (by decide) ?_
    refine lv_icmp_ne (tgt := 40) hx hb dL_why_33 (by decide) (fun c2 => ?_) (fun c2 => ?_)
    · refine lv_iload hx hb dL_why_40 (lv_at hl 0 rfl) ?_
      refine lv_if_le (tgt := 67) hx hb dL_why_42 (by decide) (fun c3 => ?_) (fun c3 => ?_)
      · refine lv_iload hx hb dL_why_67 (lv_at hl 0 rfl) ?_
        refine lv_if_le (tgt := 91) hx hb dL_why_69 (by decide) (fun c4 => ?_) (fun c4 => absurd c3 c4)
        refine lv_iconst (v := 0) hx hb dL_why_91 (by decide) ?_
        exact W.iret hx hb hr (fun t ht hW => ⟨⟨0, s.heap, rfl, ⟨rfl, (rs_0 c1 c2 (gd_bz hg) hj c3).symm⟩, ht⟩, hS.F ht⟩) hS.2.2 dL_why_92
      refine lv_aload_n hx hb dL_why_45 rfl (lv_at hl 2 rfl) ?_
      refine lv_iload hx hb dL_why_46 (lv_at hl 1 rfl) ?_
      refine lv_iconst (v := 2) hx hb dL_why_48 (by decide) ?_
      refine lv_iadd hx hb dL_why_49 ?_
      rw [show nI (10 * j) + (2 : Int32) = nI (10 * j + 2) from nI_add (10 * j) 2]
      refine ld_d hx hb hK hL.1 j 2 10 rfl hj (by decide) rfl dL_why_50 ?_
      refine lv_iload hx hb dL_why_51 (lv_at hl 0 rfl) ?_
      refine lv_isub hx hb dL_why_53 ?_
      refine dp_Si hF hK hN (c_L_size l D G ((R (10 + 10 * j)) - (fq R)) _) (va_cwS 1 hts gL_why_L_size rfl rfl rfl (by decide +kernel) ⟨Nat.le_of_ble_eq_true rfl, Nat.le_of_ble_eq_true rfl⟩) hS nA_i [] rfl rfl hl.1 (Nat.le_of_ble_eq_true rfl) dL_why_54 ⟨Nat.le_of_ble_eq_true rfl, Nat.le_of_ble_eq_true rfl⟩ (fun rH2 H2 locs hp hzH2 hkH2 hS => ?_)
      obtain ⟨rfl, rfl⟩ := hp
      refine lv_aload_n hx hb dL_why_57 rfl (lv_at hl 4 rfl) ?_
      refine lv_iconst (v := 2) hx hb dL_why_58 (by decide) ?_
      refine dp_iald hx hb hK hL.2.2.1 0 rfl 2 rfl (by decide) (by decide) dL_why_59 ?_
      refine lv_icmp_le (tgt := 67) hx hb dL_why_60 (by decide) (fun c5 => ?_) (fun c5 => ?_)
      · refine lv_iload hx hb dL_why_67 (lv_at hl 0 rfl) ?_
        refine lv_if_le (tgt := 91) hx hb dL_why_69 (by decide) (fun c6 => absurd c6 c3) (fun c6 => ?_)
        refine lv_aload_n hx hb dL_why_72 rfl (lv_at hl 2 rfl) ?_
        refine lv_iload hx hb dL_why_73 (lv_at hl 1 rfl) ?_
        refine lv_iconst (v := 5) hx hb dL_why_75 (by decide) ?_
        refine lv_iadd hx hb dL_why_76 ?_
        rw [show nI (10 * j) + (5 : Int32) = nI (10 * j + 5) from nI_add (10 * j) 5]
        refine ld_d hx hb hK hL.1 j 5 13 rfl hj (by decide) rfl dL_why_77 ?_
        refine dp_Si hF hK hN (c_L_lamps l D G (R (13 + 10 * j)) _) (va_cwS 1 hts gL_why_L_lamps rfl rfl rfl (by decide +kernel) ⟨Nat.le_of_ble_eq_true rfl, Nat.le_of_ble_eq_true rfl⟩) hS nA_i [] rfl rfl hl.1 (Nat.le_of_ble_eq_true rfl) dL_why_78 ⟨Nat.le_of_ble_eq_true rfl, Nat.le_of_ble_eq_true rfl⟩ (fun rH3 H3 locs hp hzH3 hkH3 hS => ?_)
        obtain ⟨rfl, rfl⟩ := hp
        refine lv_aload_n hx hb dL_why_81 rfl (lv_at hl 4 rfl) ?_
        refine lv_iconst (v := 3) hx hb dL_why_82 (by decide) ?_
        refine dp_iald hx hb hK hL.2.2.1 0 rfl 3 rfl (by decide) (by decide) dL_why_83 ?_
        refine lv_icmp_le (tgt := 91) hx hb dL_why_84 (by decide) (fun c7 => ?_) (fun c7 => ?_)
        · refine lv_iconst (v := 0) hx hb dL_why_91 (by decide) ?_
          exact W.iret hx hb hr (fun t ht hW => ⟨⟨0, s.heap, rfl, ⟨rfl, (rs_00 c1 c2 (gd_bz hg) hj c3 c5 hph c7).symm⟩, ht⟩, hS.F ht⟩) hS.2.2 dL_why_92
        refine lv_iconst (v := 4) hx hb dL_why_87 (by decide) ?_
        refine lv_goto (tgt := 92) hx hb dL_why_88 (by decide) ?_
        exact W.iret hx hb hr (fun t ht hW => ⟨⟨4, s.heap, rfl, ⟨rfl, (rs_4 c1 c2 (gd_bz hg) hj c3 c5 hph c7).symm⟩, ht⟩, hS.F ht⟩) hS.2.2 dL_why_92
      refine lv_iconst (v := 3) hx hb dL_why_63 (by decide) ?_
      refine lv_goto (tgt := 92) hx hb dL_why_64 (by decide) ?_
      exact W.iret hx hb hr (fun t ht hW => ⟨⟨3, s.heap, rfl, ⟨rfl, (rs_3 c1 c2 (gd_bz hg) hj c3 c5).symm⟩, ht⟩, hS.F ht⟩) hS.2.2 dL_why_92
    refine lv_iconst (v := 2) hx hb dL_why_36 (by decide) ?_
    refine lv_goto (tgt := 92) hx hb dL_why_37 (by decide) ?_
    exact W.iret hx hb hr (fun t ht hW => ⟨⟨2, s.heap, rfl, ⟨rfl, (rs_2 c1 c2).symm⟩, ht⟩, hS.F ht⟩) hS.2.2 dL_why_92
  refine lv_iconst (v := 1) hx hb dL_why_22 (by decide) ?_
  refine lv_goto (tgt := 92) hx hb dL_why_23 (by decide) ?_
  exact W.iret hx hb hr (fun t ht hW => ⟨⟨1, s.heap, rfl, ⟨rfl, (rs_1 c1).symm⟩, ht⟩, hS.F ht⟩) hS.2.2 dL_why_92

set_option maxHeartbeats 600000 in
set_option maxRecDepth 100000 in
theorem c_L_rests (l : Launch) (D : va_G) (G : Nat → ClassId) (μ : Nat → Nat) (R P : Nat → Int32) (j : Nat) (H : Heap) (hμ : inj 4 μ) (hL : LB D G μ R P H) (hj : j < 3) : Met l yL_rests wsL_rests ({ frames := 0, cells := 0, slots := 0, locals := 0 } : Room) (va_Pc [.ref (μ 0), .int (nI j)] (CX D G H)) (QV (bA 4 μ) (fun h => LB D G μ (rst R j) P h)) 0 0 (bA 4 μ) := by
  refine Met.ofW (cc := cL_rests) (maxL := 2) (ret := none) (by decide) rfl ?_
  intro p e s m args below meth c s₁ B0 hml hv
  obtain ⟨rfl, rfl, hK, hN⟩ := hv
  have hx := B0.exec
  have hb := B0.bytes
  have hr := B0.returns
  have hts := atoms_spec (ws := wsL_rests) B0.pre
  have hown : s.vm.findClass RL = some m.cls := findClass_of_methodNamed B0.named
  have hlocks := B0.notSynchronized
  have hF : CallFix p m c cL_rests 2 s ([.ref (μ 0), .int (nI j)] : List Value).toArray wsL_rests RL := ⟨hx, hb, hml, hown, hts⟩
  have hS : va_S (bA 4 μ) s.heap s.heap [] := va_S.rf
  have hl := lv_entry ([.ref (μ 0), .int (nI j)]) (n := 2) (Nat.le_of_ble_eq_true rfl)
  rw [lg_entry_eq]
  generalize (lg_sl ([.ref (μ 0), .int (nI j)]) ++ List.replicate (2 - (lg_sl ([.ref (μ 0), .int (nI j)])).length) Slot.unset).toArray = ls at hl ⊢
  have hl : lv_has ls 2 [(0, .ref (μ 0)), (1, .int (nI j))] := hl
  refine lv_aload_n hx hb dL_rests_0 rfl (lv_at hl 0 rfl) ?_
  refine lv_bipush (v := 10) hx hb dL_rests_1 (by decide) ?_
  refine lv_iload_n hx hb dL_rests_3 rfl (lv_at hl 1 rfl) ?_
  refine lv_imul hx hb dL_rests_4 ?_
  rw [show (10 : Int32) * nI j = nI (10 * j) from pk_mul 10 j]
  refine lv_iconst (v := 5) hx hb dL_rests_5 (by decide) ?_
  refine lv_iadd hx hb dL_rests_6 ?_
  rw [show nI (10 * j) + (5 : Int32) = nI (10 * j + 5) from nI_add (10 * j) 5]
  refine lv_iconst (v := 0) hx hb dL_rests_7 (by decide) ?_
  refine dp_iast (A := bA 4 μ) hx hb hK hL.1 (⟨0, by decide, rfl⟩ : bA 4 μ (μ 0)) hS 0 rfl (10 * j + 5) rfl (by have := (hj : j < 3); have := ((by decide) : 5 < 10); omega) (by decide) dL_rests_8 (fun H1 locs hH1 hzH1 hkH1 hS => ?_)
  have hL : LB D G μ (upd R (13 + 10 * j) 0) P H1 := hL.d (w := 5) hμ hj (by decide) rfl hH1 hkH1
  refine lv_aload_n hx hb dL_rests_9 rfl (lv_at hl 0 rfl) ?_
  refine lv_bipush (v := 10) hx hb dL_rests_10 (by decide) ?_
  refine lv_iload_n hx hb dL_rests_12 rfl (lv_at hl 1 rfl) ?_
  refine lv_imul hx hb dL_rests_13 ?_
  rw [show (10 : Int32) * nI j = nI (10 * j) from pk_mul 10 j]
  refine lv_bipush (v := 6) hx hb dL_rests_14 (by decide) ?_
  refine lv_iadd hx hb dL_rests_16 ?_
  rw [show nI (10 * j) + (6 : Int32) = nI (10 * j + 6) from nI_add (10 * j) 6]
  refine lv_iconst (v := 0) hx hb dL_rests_17 (by decide) ?_
  refine dp_iast (A := bA 4 μ) hx hb hK hL.1 (⟨0, by decide, rfl⟩ : bA 4 μ (μ 0)) hS 0 rfl (10 * j + 6) rfl (by have := (hj : j < 3); have := ((by decide) : 6 < 10); omega) (by decide) dL_rests_18 (fun H2 locs hH2 hzH2 hkH2 hS => ?_)
  have hL : LB D G μ (upd (upd R (13 + 10 * j) 0) (14 + 10 * j) 0) P H2 := hL.d (w := 6) hμ hj (by decide) rfl hH2 hkH2
  refine lv_aload_n hx hb dL_rests_19 rfl (lv_at hl 0 rfl) ?_
  refine lv_bipush (v := 10) hx hb dL_rests_20 (by decide) ?_
  refine lv_iload_n hx hb dL_rests_22 rfl (lv_at hl 1 rfl) ?_
  refine lv_imul hx hb dL_rests_23 ?_
  rw [show (10 : Int32) * nI j = nI (10 * j) from pk_mul 10 j]
  refine lv_bipush (v := 7) hx hb dL_rests_24 (by decide) ?_
  refine lv_iadd hx hb dL_rests_26 ?_
  rw [show nI (10 * j) + (7 : Int32) = nI (10 * j + 7) from nI_add (10 * j) 7]
  refine lv_iconst (v := 0) hx hb dL_rests_27 (by decide) ?_
  refine dp_iast (A := bA 4 μ) hx hb hK hL.1 (⟨0, by decide, rfl⟩ : bA 4 μ (μ 0)) hS 0 rfl (10 * j + 7) rfl (by have := (hj : j < 3); have := ((by decide) : 7 < 10); omega) (by decide) dL_rests_28 (fun H3 locs hH3 hzH3 hkH3 hS => ?_)
  have hL : LB D G μ (upd (upd (upd R (13 + 10 * j) 0) (14 + 10 * j) 0) (15 + 10 * j) 0) P H3 := hL.d (w := 7) hμ hj (by decide) rfl hH3 hkH3
  exact W.vret hx hb hr (fun t ht hW => ⟨⟨H3, rfl, hL, ht⟩, hS.F ht⟩) hS.2.2 dL_rests_29

set_option maxHeartbeats 600000 in
set_option maxRecDepth 100000 in
theorem c_L_opens (l : Launch) (D : va_G) (G : Nat → ClassId) (μ : Nat → Nat) (R P : Nat → Int32) (j : Nat) (H : Heap) (hμ : inj 4 μ) (hL : LB D G μ R P H) (hj : j < 3) : Met l yL_opens wsL_opens ({ frames := 1, cells := 0, slots := 0, locals := 21 } : Room) (va_Pc [.ref (μ 0), .int (nI j)] (CX D G H)) (QV (bA 4 μ) (fun h => LB D G μ (rst (upd R (12 + 10 * j) 0) j) P h)) 0 0 (bA 4 μ) := by
  refine Met.ofW (cc := cL_opens) (maxL := 2) (ret := none) (by decide) rfl ?_
  intro p e s m args below meth c s₁ B0 hml hv
  obtain ⟨rfl, rfl, hK, hN⟩ := hv
  have hx := B0.exec
  have hb := B0.bytes
  have hr := B0.returns
  have hts := atoms_spec (ws := wsL_opens) B0.pre
  have hown : s.vm.findClass RL = some m.cls := findClass_of_methodNamed B0.named
  have hlocks := B0.notSynchronized
  have hF : CallFix p m c cL_opens 2 s ([.ref (μ 0), .int (nI j)] : List Value).toArray wsL_opens RL := ⟨hx, hb, hml, hown, hts⟩
  have hS : va_S (bA 4 μ) s.heap s.heap [] := va_S.rf
  have hl := lv_entry ([.ref (μ 0), .int (nI j)]) (n := 2) (Nat.le_of_ble_eq_true rfl)
  rw [lg_entry_eq]
  generalize (lg_sl ([.ref (μ 0), .int (nI j)]) ++ List.replicate (2 - (lg_sl ([.ref (μ 0), .int (nI j)])).length) Slot.unset).toArray = ls at hl ⊢
  have hl : lv_has ls 2 [(0, .ref (μ 0)), (1, .int (nI j))] := hl
  refine lv_aload_n hx hb dL_opens_0 rfl (lv_at hl 0 rfl) ?_
  refine lv_bipush (v := 10) hx hb dL_opens_1 (by decide) ?_
  refine lv_iload_n hx hb dL_opens_3 rfl (lv_at hl 1 rfl) ?_
  refine lv_imul hx hb dL_opens_4 ?_
  rw [show (10 : Int32) * nI j = nI (10 * j) from pk_mul 10 j]
  refine lv_iconst (v := 4) hx hb dL_opens_5 (by decide) ?_
  refine lv_iadd hx hb dL_opens_6 ?_
  rw [show nI (10 * j) + (4 : Int32) = nI (10 * j + 4) from nI_add (10 * j) 4]
  refine lv_iconst (v := 0) hx hb dL_opens_7 (by decide) ?_
  refine dp_iast (A := bA 4 μ) hx hb hK hL.1 (⟨0, by decide, rfl⟩ : bA 4 μ (μ 0)) hS 0 rfl (10 * j + 4) rfl (by have := (hj : j < 3); have := ((by decide) : 4 < 10); omega) (by decide) dL_opens_8 (fun H1 locs hH1 hzH1 hkH1 hS => ?_)
  have hL : LB D G μ (upd R (12 + 10 * j) 0) P H1 := hL.d (w := 4) hμ hj (by decide) rfl hH1 hkH1
  refine lv_aload_n hx hb dL_opens_9 rfl (lv_at hl 0 rfl) ?_
  refine lv_iload_n hx hb dL_opens_10 rfl (lv_at hl 1 rfl) ?_
  refine dp_Sv hF hK hN (c_L_rests l D G μ (upd R (12 + 10 * j) 0) P j _ hμ hL hj) (va_cwS 2 hts gL_opens_L_rests rfl rfl rfl (by decide +kernel) ⟨Nat.le_of_ble_eq_true rfl, Nat.le_of_ble_eq_true rfl⟩) hS (fun q hq => hq) [] rfl rfl hl.1 (Nat.le_of_ble_eq_true rfl) dL_opens_11 ⟨Nat.le_of_ble_eq_true rfl, Nat.le_of_ble_eq_true rfl⟩ (fun H2 locs hp hzH2 hkH2 hS => ?_)
  replace hL := hp
  exact W.vret hx hb hr (fun t ht hW => ⟨⟨H2, rfl, hL, ht⟩, hS.F ht⟩) hS.2.2 dL_opens_14
