set_option maxHeartbeats 600000 in
set_option maxRecDepth 100000 in
theorem c_L_switches (l : Launch) (D : va_G) (G : Nat → ClassId) (α : Nat → Nat) (R P : Nat → Int32) (j : Nat) (kd : Int32) (c9 : Nat) (H : Heap) (hα : inj 115 α) (hO : OB D G α R H) (hL : LB D G (lm α) R P H) (hg : gd R) (hph : ph R) (hj : j < 3) (hen : en R) (hbu : bud R c9) : Met l yL_switches wsL_switches ({ frames := 6, cells := 0, slots := 0, locals := 136 } : Room) (va_Pc [.ref (α 0), .ref (lm α 0), .ref (lm α 1), .ref (lm α 2), .int (nI j), .int kd] (CX D G H)) (QI (AT α) (fun r h => 1 = r ∧ ∃ R1 P1, gw R1 ∧ bud R1 c9 ∧ OB D G α R1 h ∧ LB D G (lm α) R1 P1 h)) 0 0 (AT α) := by
  refine Met.ofW (cc := cL_switches) (maxL := 7) (ret := (some .boolean)) (by decide) rfl ?_
  intro p e s m args below meth c s₁ B0 hml hv
  obtain ⟨rfl, rfl, hK, hN⟩ := hv
  have hx := B0.exec
  have hb := B0.bytes
  have hr := B0.returns
  have hts := atoms_spec (ws := wsL_switches) B0.pre
  have hown : s.vm.findClass RL = some m.cls := findClass_of_methodNamed B0.named
  have hlocks := B0.notSynchronized
  have hF : CallFix p m c cL_switches 7 s ([.ref (α 0), .ref (lm α 0), .ref (lm α 1), .ref (lm α 2), .int (nI j), .int kd] : List Value).toArray wsL_switches RL := ⟨hx, hb, hml, hown, hts⟩
  have hS : va_S (AT α) s.heap s.heap [] := va_S.rf
  have hl := lv_entry ([.ref (α 0), .ref (lm α 0), .ref (lm α 1), .ref (lm α 2), .int (nI j), .int kd]) (n := 7) (Nat.le_of_ble_eq_true rfl)
  rw [lg_entry_eq]
  generalize (lg_sl ([.ref (α 0), .ref (lm α 0), .ref (lm α 1), .ref (lm α 2), .int (nI j), .int kd]) ++ List.replicate (7 - (lg_sl ([.ref (α 0), .ref (lm α 0), .ref (lm α 1), .ref (lm α 2), .int (nI j), .int kd])).length) Slot.unset).toArray = ls at hl ⊢
  have hl : lv_has ls 7 [(0, .ref (α 0)), (1, .ref (lm α 0)), (2, .ref (lm α 1)), (3, .ref (lm α 2)), (4, .int (nI j)), (5, .int kd)] := hl
  have hμ := lm_inj hα
  refine lv_bipush (v := 10) hx hb dL_switches_0 (by decide) ?_
  refine lv_iload hx hb dL_switches_2 (lv_at hl 4 rfl) ?_
  refine lv_imul hx hb dL_switches_4 ?_
  rw [show (10 : Int32) * nI j = nI (10 * j) from pk_mul 10 j]
  refine lv_istore (lv' := [(6, .int (nI (10 * j))), (0, .ref (α 0)), (1, .ref (lm α 0)), (2, .ref (lm α 1)), (3, .ref (lm α 2)), (4, .int (nI j)), (5, .int kd)]) hx hb dL_switches_5 hl (by decide) rfl (fun ls hl => ?_)
  refine lv_aload_n hx hb dL_switches_7 rfl (lv_at hl 2 rfl) ?_
  refine lv_iload hx hb dL_switches_8 (lv_at hl 0 rfl) ?_
  refine lv_iconst (v := 3) hx hb dL_switches_10 (by decide) ?_
  refine lv_iadd hx hb dL_switches_11 ?_
  rw [show nI (10 * j) + (3 : Int32) = nI (10 * j + 3) from nI_add (10 * j) 3]
  refine ld_d hx hb hK hL.1 j 3 11 rfl hj (by decide) rfl dL_switches_12 ?_
  refine lv_if_ne (tgt := 57) hx hb dL_switches_13 (by decide) (fun c1 => ?_) (fun c1 => ?_)
  · refine lv_aload_n hx hb dL_switches_57 rfl (lv_at hl 2 rfl) ?_
    refine lv_iload hx hb dL_switches_58 (lv_at hl 0 rfl) ?_
    refine lv_iconst (v := 4) hx hb dL_switches_60 (by decide) ?_
    refine lv_iadd hx hb dL_switches_61 ?_
    rw [show nI (10 * j) + (4 : Int32) = nI (10 * j + 4) from nI_add (10 * j) 4]
    refine ld_d hx hb hK hL.1 j 4 12 rfl hj (by decide) rfl dL_switches_62 ?_
    refine lv_iconst (v := 1) hx hb dL_switches_63 (by decide) ?_
    refine lv_icmp_ne (tgt := 90) hx hb dL_switches_64 (by decide) (fun c2 => ?_) (fun c2 => ?_)
    · refine lv_aload_n hx hb dL_switches_90 rfl (lv_at hl 2 rfl) ?_
      refine lv_iload hx hb dL_switches_91 (lv_at hl 0 rfl) ?_
      refine lv_iconst (v := 4) hx hb dL_switches_93 (by decide) ?_
      refine lv_iadd hx hb dL_switches_94 ?_
      rw [show nI (10 * j) + (4 : Int32) = nI (10 * j + 4) from nI_add (10 * j) 4]
      refine ld_d hx hb hK hL.1 j 4 12 rfl hj (by decide) rfl dL_switches_95 ?_
      refine lv_iconst (v := 1) hx hb dL_switches_96 (by decide) ?_
      refine lv_icmp_ne (tgt := 126) hx hb dL_switches_97 (by decide) (fun c3 => ?_) (fun c3 => absurd c3 c2)
      refine lv_aload_n hx hb dL_switches_126 rfl (lv_at hl 2 rfl) ?_
      refine lv_aload_n hx hb dL_switches_127 rfl (lv_at hl 3 rfl) ?_
      refine lv_aload_n hx hb dL_switches_128 rfl (lv_at hl 4 rfl) ?_
      refine lv_iload hx hb dL_switches_129 (lv_at hl 5 rfl) ?_
      refine dp_Si hF hK hN (c_L_why l D G (lm α) R P j _ hμ hL hg hj hph) (va_cwS 4 hts gL_switches_L_why rfl rfl rfl (by decide +kernel) ⟨Nat.le_of_ble_eq_true rfl, Nat.le_of_ble_eq_true rfl⟩) hS nA_i [] rfl rfl hl.1 (Nat.le_of_ble_eq_true rfl) dL_switches_131 ⟨Nat.le_of_ble_eq_true rfl, Nat.le_of_ble_eq_true rfl⟩ (fun rH1 H1 locs hp hzH1 hkH1 hS => ?_)
      obtain ⟨rfl, rfl⟩ := hp
      refine lv_if_ne (tgt := 170) hx hb dL_switches_134 (by decide) (fun c4 => ?_) (fun c4 => ?_)
      · refine lv_iload hx hb dL_switches_170 (lv_at hl 6 rfl) ?_
        refine lv_iconst (v := 1) hx hb dL_switches_172 (by decide) ?_
        refine lv_icmp_le (tgt := 194) hx hb dL_switches_173 (by decide) (fun c5 => ?_) (fun c5 => ?_)
        · refine lv_aload_n hx hb dL_switches_194 rfl (lv_at hl 2 rfl) ?_
          refine lv_iload hx hb dL_switches_195 (lv_at hl 0 rfl) ?_
          refine lv_iconst (v := 3) hx hb dL_switches_197 (by decide) ?_
          refine lv_iadd hx hb dL_switches_198 ?_
          rw [show nI (10 * j) + (3 : Int32) = nI (10 * j + 3) from nI_add (10 * j) 3]
          refine lv_iconst (v := 0) hx hb dL_switches_199 (by decide) ?_
          refine dp_iast (A := AT α) hx hb hK hL.1 (lm_T _ ⟨0, by decide, rfl⟩) hS 0 rfl (10 * j + 3) rfl (by have := (hj : j < 3); have := ((by decide) : 3 < 10); omega) (by decide) dL_switches_200 (fun H2 locs hH2 hzH2 hkH2 hS => ?_)
          replace hO := hO.ad (i := 0) hα (by decide) hkH2
          have hL : LB D G (lm α) (upd R (11 + 10 * j) 0) P H2 := hL.d (w := 3) hμ hj (by decide) rfl hH2 hkH2
          refine lv_aload_n hx hb dL_switches_201 rfl (lv_at hl 2 rfl) ?_
          refine lv_iload hx hb dL_switches_202 (lv_at hl 5 rfl) ?_
          refine dp_Sv hF hK hN (c_L_rests l D G (lm α) (upd R (11 + 10 * j) 0) P j _ hμ hL hj) (va_cwS 2 hts gL_switches_L_rests rfl rfl rfl (by decide +kernel) ⟨Nat.le_of_ble_eq_true rfl, Nat.le_of_ble_eq_true rfl⟩) hS lm_T [] rfl rfl hl.1 (Nat.le_of_ble_eq_true rfl) dL_switches_204 ⟨Nat.le_of_ble_eq_true rfl, Nat.le_of_ble_eq_true rfl⟩ (fun H3 locs hp hzH3 hkH3 hS => ?_)
          replace hO := hO.km hα hkH3
          have h9L := hp
          replace hL := h9L
          have hgQ : gw (rst (upd R (11 + 10 * j) 0) j) := gw_sw ⟨hg, hph, hen⟩ hj (Or.inl rfl) (Or.inl rfl)
          refine lv_aload_n hx hb dL_switches_207 rfl (lv_at hl 1 rfl) ?_
          refine lv_iload hx hb dL_switches_208 (lv_at hl 5 rfl) ?_
          refine dp_Vi hF hK hN (n_X5_halt l D G α R j _ hα hO hg hj c1 (((gd_bz hg).1 j hj).2.resolve_right c2)) (cwV 1 hts gL_switches_X5_halt rfl rfl rfl (by decide +kernel) ⟨Nat.le_of_ble_eq_true rfl, Nat.le_of_ble_eq_true rfl⟩) (ob_recv hK hO) hS A5_T [] rfl rfl hl.1 (Nat.le_of_ble_eq_true rfl) dL_switches_210 ⟨Nat.le_of_ble_eq_true rfl, Nat.le_of_ble_eq_true rfl⟩ (fun rH4 H4 locs hp hzH4 hkH4 hS => ?_)
          obtain ⟨rfl, h9O⟩ := hp
          replace hO := h9O
          replace hL := hL.o5 hα hkH4
          refine lv_aload_n hx hb dL_switches_213 rfl (lv_at hl 2 rfl) ?_
          refine lv_iconst (v := 3) hx hb dL_switches_214 (by decide) ?_
          refine ld_d hx hb hK hL.1 0 3 11 (by decide) (by decide) (by decide) rfl dL_switches_215 ?_
          refine lv_aload_n hx hb dL_switches_216 rfl (lv_at hl 2 rfl) ?_
          refine lv_bipush (v := 13) hx hb dL_switches_217 (by decide) ?_
          refine ld_d hx hb hK hL.1 1 3 11 (by decide) (by decide) (by decide) rfl dL_switches_219 ?_
          refine lv_iadd hx hb dL_switches_220 ?_
          refine lv_aload_n hx hb dL_switches_221 rfl (lv_at hl 2 rfl) ?_
          refine lv_bipush (v := 23) hx hb dL_switches_222 (by decide) ?_
          refine ld_d hx hb hK hL.1 2 3 11 (by decide) (by decide) (by decide) rfl dL_switches_224 ?_
          refine lv_iadd hx hb dL_switches_225 ?_
          refine lv_icmp_ne (tgt := 233) hx hb dL_switches_226 (by decide) (fun c6 => absurd c6 (fun q => q (run_3 (gd_bz hgQ.1)))) (fun c6 => ?_)
          refine lv_iconst (v := 1) hx hb dL_switches_229 (by decide) ?_
          refine lv_goto (tgt := 234) hx hb dL_switches_230 (by decide) ?_
          exact W.zret (ty := .boolean) hx hb hr rfl (fun t ht hW => ⟨⟨1, H4, rfl, ⟨rfl, _, _, hgQ, (bud_sw hbu hj (Or.inl rfl)), hO, hL⟩, ht⟩, hS.F ht⟩) hS.2.2 dL_switches_234
        refine lv_aload_n hx hb dL_switches_176 rfl (lv_at hl 1 rfl) ?_
        refine lv_iload hx hb dL_switches_177 (lv_at hl 5 rfl) ?_
        refine lv_bipush (v := 12) hx hb dL_switches_179 (by decide) ?_
        refine dp_Vi hF hK hN (n_X5_diesel l D G α R j 12 _ hα hO hg hj (by decide)) (cwV 2 hts gL_switches_X5_diesel rfl rfl rfl (by decide +kernel) ⟨Nat.le_of_ble_eq_true rfl, Nat.le_of_ble_eq_true rfl⟩) (ob_recv hK hO) hS A5_T [] rfl rfl hl.1 (Nat.le_of_ble_eq_true rfl) dL_switches_181 ⟨Nat.le_of_ble_eq_true rfl, Nat.le_of_ble_eq_true rfl⟩ (fun rH5 H5 locs hp hzH5 hkH5 hS => ?_)
        obtain ⟨rfl, h9O⟩ := hp
        replace hO := h9O
        replace hL := hL.o5 hα hkH5
        refine lv_iconst (v := 2) hx hb dL_switches_184 (by decide) ?_
        refine lv_icmp_le (tgt := 192) hx hb dL_switches_185 (by decide) (fun c7 => absurd c7 (rsn_gt c1 c2 (gd_bz hg) hj c4)) (fun c7 => ?_)
        refine lv_iconst (v := 1) hx hb dL_switches_188 (by decide) ?_
        refine lv_goto (tgt := 193) hx hb dL_switches_189 (by decide) ?_
        exact W.zret (ty := .boolean) hx hb hr rfl (fun t ht hW => ⟨⟨1, H5, rfl, ⟨rfl, _, _, ⟨hg, hph, hen⟩, hbu, hO, hL⟩, ht⟩, hS.F ht⟩) hS.2.2 dL_switches_193
      refine lv_aload_n hx hb dL_switches_137 rfl (lv_at hl 2 rfl) ?_
      refine lv_iload hx hb dL_switches_138 (lv_at hl 0 rfl) ?_
      refine lv_iconst (v := 4) hx hb dL_switches_140 (by decide) ?_
      refine lv_iadd hx hb dL_switches_141 ?_
      rw [show nI (10 * j) + (4 : Int32) = nI (10 * j + 4) from nI_add (10 * j) 4]
      refine lv_iconst (v := 1) hx hb dL_switches_142 (by decide) ?_
      refine dp_iast (A := AT α) hx hb hK hL.1 (lm_T _ ⟨0, by decide, rfl⟩) hS 0 rfl (10 * j + 4) rfl (by have := (hj : j < 3); have := ((by decide) : 4 < 10); omega) (by decide) dL_switches_143 (fun H6 locs hH6 hzH6 hkH6 hS => ?_)
      replace hO := hO.ad (i := 0) hα (by decide) hkH6
      have hL : LB D G (lm α) (upd R (12 + 10 * j) 1) P H6 := hL.d (w := 4) hμ hj (by decide) rfl hH6 hkH6
      refine lv_aload_n hx hb dL_switches_144 rfl (lv_at hl 2 rfl) ?_
      refine lv_iload hx hb dL_switches_145 (lv_at hl 5 rfl) ?_
      refine dp_Sv hF hK hN (c_L_rests l D G (lm α) (upd R (12 + 10 * j) 1) P j _ hμ hL hj) (va_cwS 2 hts gL_switches_L_rests rfl rfl rfl (by decide +kernel) ⟨Nat.le_of_ble_eq_true rfl, Nat.le_of_ble_eq_true rfl⟩) hS lm_T [] rfl rfl hl.1 (Nat.le_of_ble_eq_true rfl) dL_switches_147 ⟨Nat.le_of_ble_eq_true rfl, Nat.le_of_ble_eq_true rfl⟩ (fun H7 locs hp hzH7 hkH7 hS => ?_)
      replace hO := hO.km hα hkH7
      have h9L := hp
      replace hL := h9L
      have hgQ : gw (rst (upd R (12 + 10 * j) 1) j) := gw_sw ⟨hg, hph, hen⟩ hj (Or.inr rfl) (Or.inr rfl)
      refine lv_aload_n hx hb dL_switches_150 rfl (lv_at hl 1 rfl) ?_
      refine lv_iload hx hb dL_switches_151 (lv_at hl 5 rfl) ?_
      refine dp_Vi hF hK hN (n_X5_close l D G α R j _ hα hO hg hj c4) (cwV 1 hts gL_switches_X5_close rfl rfl rfl (by decide +kernel) ⟨Nat.le_of_ble_eq_true rfl, Nat.le_of_ble_eq_true rfl⟩) (ob_recv hK hO) hS A5_T [] rfl rfl hl.1 (Nat.le_of_ble_eq_true rfl) dL_switches_153 ⟨Nat.le_of_ble_eq_true rfl, Nat.le_of_ble_eq_true rfl⟩ (fun rH8 H8 locs hp hzH8 hkH8 hS => ?_)
      obtain ⟨rfl, h9O⟩ := hp
      replace hO := h9O
      replace hL := hL.o5 hα hkH8
      refine lv_aload_n hx hb dL_switches_156 rfl (lv_at hl 2 rfl) ?_
      refine lv_aload_n hx hb dL_switches_157 rfl (lv_at hl 3 rfl) ?_
      refine dp_Si hF hK hN (c_L_frequency l D G (lm α) (rst (upd R (12 + 10 * j) 1) j) P  _ hμ hL hgQ.1) (va_cwS 2 hts gL_switches_L_frequency rfl rfl rfl (by decide +kernel) ⟨Nat.le_of_ble_eq_true rfl, Nat.le_of_ble_eq_true rfl⟩) hS nA_i [.int (fq (rst (upd R (12 + 10 * j) 1) j))] rfl rfl hl.1 (Nat.le_of_ble_eq_true rfl) dL_switches_158 ⟨Nat.le_of_ble_eq_true rfl, Nat.le_of_ble_eq_true rfl⟩ (fun rH9 H9 locs hp hzH9 hkH9 hS => ?_)
      obtain ⟨rfl, rfl⟩ := hp
      refine lv_icmp_ne (tgt := 168) hx hb dL_switches_161 (by decide) (fun c8 => absurd c8 (fun q => q rfl)) (fun c8 => ?_)
      refine lv_iconst (v := 1) hx hb dL_switches_164 (by decide) ?_
      refine lv_goto (tgt := 169) hx hb dL_switches_165 (by decide) ?_
      exact W.zret (ty := .boolean) hx hb hr rfl (fun t ht hW => ⟨⟨1, H8, rfl, ⟨rfl, _, _, hgQ, (bud_sw hbu hj (Or.inr rfl)), hO, hL⟩, ht⟩, hS.F ht⟩) hS.2.2 dL_switches_169
    refine lv_iload hx hb dL_switches_67 (lv_at hl 6 rfl) ?_
    refine lv_if_le (tgt := 90) hx hb dL_switches_69 (by decide) (fun c9 => ?_) (fun c9 => ?_)
    · refine lv_aload_n hx hb dL_switches_90 rfl (lv_at hl 2 rfl) ?_
      refine lv_iload hx hb dL_switches_91 (lv_at hl 0 rfl) ?_
      refine lv_iconst (v := 4) hx hb dL_switches_93 (by decide) ?_
      refine lv_iadd hx hb dL_switches_94 ?_
      rw [show nI (10 * j) + (4 : Int32) = nI (10 * j + 4) from nI_add (10 * j) 4]
      refine ld_d hx hb hK hL.1 j 4 12 rfl hj (by decide) rfl dL_switches_95 ?_
      refine lv_iconst (v := 1) hx hb dL_switches_96 (by decide) ?_
      refine lv_icmp_ne (tgt := 126) hx hb dL_switches_97 (by decide) (fun c10 => absurd c10 (not_not_intro c2)) (fun c10 => ?_)
      refine lv_aload_n hx hb dL_switches_100 rfl (lv_at hl 2 rfl) ?_
      refine lv_iload hx hb dL_switches_101 (lv_at hl 5 rfl) ?_
      refine dp_Sv hF hK hN (c_L_opens l D G (lm α) R P j _ hμ hL hj) (va_cwS 2 hts gL_switches_L_opens rfl rfl rfl (by decide +kernel) ⟨Nat.le_of_ble_eq_true rfl, Nat.le_of_ble_eq_true rfl⟩) hS lm_T [] rfl rfl hl.1 (Nat.le_of_ble_eq_true rfl) dL_switches_103 ⟨Nat.le_of_ble_eq_true rfl, Nat.le_of_ble_eq_true rfl⟩ (fun H10 locs hp hzH10 hkH10 hS => ?_)
      replace hO := hO.km hα hkH10
      have h9L := hp
      replace hL := h9L
      have hgQ : gw (rst (upd R (12 + 10 * j) 0) j) := gw_sw ⟨hg, hph, hen⟩ hj (Or.inr rfl) (Or.inl rfl)
      refine lv_aload_n hx hb dL_switches_106 rfl (lv_at hl 1 rfl) ?_
      refine lv_iload hx hb dL_switches_107 (lv_at hl 5 rfl) ?_
      refine dp_Vi hF hK hN (n_X5_open l D G α R j _ hα hO hg hj (by rw [c2]; decide)) (cwV 1 hts gL_switches_X5_open rfl rfl rfl (by decide +kernel) ⟨Nat.le_of_ble_eq_true rfl, Nat.le_of_ble_eq_true rfl⟩) (ob_recv hK hO) hS A5_T [] rfl rfl hl.1 (Nat.le_of_ble_eq_true rfl) dL_switches_109 ⟨Nat.le_of_ble_eq_true rfl, Nat.le_of_ble_eq_true rfl⟩ (fun rH11 H11 locs hp hzH11 hkH11 hS => ?_)
      obtain ⟨rfl, h9O⟩ := hp
      replace hO := h9O
      replace hL := hL.o5 hα hkH11
      refine lv_aload_n hx hb dL_switches_112 rfl (lv_at hl 2 rfl) ?_
      refine lv_aload_n hx hb dL_switches_113 rfl (lv_at hl 3 rfl) ?_
      refine dp_Si hF hK hN (c_L_frequency l D G (lm α) (rst (upd R (12 + 10 * j) 0) j) P  _ hμ hL hgQ.1) (va_cwS 2 hts gL_switches_L_frequency rfl rfl rfl (by decide +kernel) ⟨Nat.le_of_ble_eq_true rfl, Nat.le_of_ble_eq_true rfl⟩) hS nA_i [.int (fq (rst (upd R (12 + 10 * j) 0) j))] rfl rfl hl.1 (Nat.le_of_ble_eq_true rfl) dL_switches_114 ⟨Nat.le_of_ble_eq_true rfl, Nat.le_of_ble_eq_true rfl⟩ (fun rH12 H12 locs hp hzH12 hkH12 hS => ?_)
      obtain ⟨rfl, rfl⟩ := hp
      refine lv_icmp_ne (tgt := 124) hx hb dL_switches_117 (by decide) (fun c11 => absurd c11 (fun q => q rfl)) (fun c11 => ?_)
      refine lv_iconst (v := 1) hx hb dL_switches_120 (by decide) ?_
      refine lv_goto (tgt := 125) hx hb dL_switches_121 (by decide) ?_
      exact W.zret (ty := .boolean) hx hb hr rfl (fun t ht hW => ⟨⟨1, H11, rfl, ⟨rfl, _, _, hgQ, (bud_sw hbu hj (Or.inr rfl)), hO, hL⟩, ht⟩, hS.F ht⟩) hS.2.2 dL_switches_125
    refine lv_aload_n hx hb dL_switches_72 rfl (lv_at hl 1 rfl) ?_
    refine lv_iload hx hb dL_switches_73 (lv_at hl 5 rfl) ?_
    refine lv_bipush (v := 12) hx hb dL_switches_75 (by decide) ?_
    refine dp_Vi hF hK hN (n_X5_diesel l D G α R j 12 _ hα hO hg hj (by decide)) (cwV 2 hts gL_switches_X5_diesel rfl rfl rfl (by decide +kernel) ⟨Nat.le_of_ble_eq_true rfl, Nat.le_of_ble_eq_true rfl⟩) (ob_recv hK hO) hS A5_T [] rfl rfl hl.1 (Nat.le_of_ble_eq_true rfl) dL_switches_77 ⟨Nat.le_of_ble_eq_true rfl, Nat.le_of_ble_eq_true rfl⟩ (fun rH13 H13 locs hp hzH13 hkH13 hS => ?_)
    obtain ⟨rfl, h9O⟩ := hp
    replace hO := h9O
    replace hL := hL.o5 hα hkH13
    refine lv_iconst (v := 2) hx hb dL_switches_80 (by decide) ?_
    refine lv_icmp_ne (tgt := 88) hx hb dL_switches_81 (by decide) (fun c12 => absurd c12 (fun q => q (rs_2 c1 c2).symm)) (fun c12 => ?_)
    refine lv_iconst (v := 1) hx hb dL_switches_84 (by decide) ?_
    refine lv_goto (tgt := 89) hx hb dL_switches_85 (by decide) ?_
    exact W.zret (ty := .boolean) hx hb hr rfl (fun t ht hW => ⟨⟨1, H13, rfl, ⟨rfl, _, _, ⟨hg, hph, hen⟩, hbu, hO, hL⟩, ht⟩, hS.F ht⟩) hS.2.2 dL_switches_89
  refine lv_aload_n hx hb dL_switches_16 rfl (lv_at hl 2 rfl) ?_
  refine lv_iload hx hb dL_switches_17 (lv_at hl 0 rfl) ?_
  refine lv_iconst (v := 3) hx hb dL_switches_19 (by decide) ?_
  refine lv_iadd hx hb dL_switches_20 ?_
  rw [show nI (10 * j) + (3 : Int32) = nI (10 * j + 3) from nI_add (10 * j) 3]
  refine lv_iconst (v := 1) hx hb dL_switches_21 (by decide) ?_
  refine dp_iast (A := AT α) hx hb hK hL.1 (lm_T _ ⟨0, by decide, rfl⟩) hS 0 rfl (10 * j + 3) rfl (by have := (hj : j < 3); have := ((by decide) : 3 < 10); omega) (by decide) dL_switches_22 (fun H14 locs hH14 hzH14 hkH14 hS => ?_)
  replace hO := hO.ad (i := 0) hα (by decide) hkH14
  have hL : LB D G (lm α) (upd R (11 + 10 * j) 1) P H14 := hL.d (w := 3) hμ hj (by decide) rfl hH14 hkH14
  refine lv_aload_n hx hb dL_switches_23 rfl (lv_at hl 2 rfl) ?_
  refine lv_iload hx hb dL_switches_24 (lv_at hl 5 rfl) ?_
  refine dp_Sv hF hK hN (c_L_rests l D G (lm α) (upd R (11 + 10 * j) 1) P j _ hμ hL hj) (va_cwS 2 hts gL_switches_L_rests rfl rfl rfl (by decide +kernel) ⟨Nat.le_of_ble_eq_true rfl, Nat.le_of_ble_eq_true rfl⟩) hS lm_T [] rfl rfl hl.1 (Nat.le_of_ble_eq_true rfl) dL_switches_26 ⟨Nat.le_of_ble_eq_true rfl, Nat.le_of_ble_eq_true rfl⟩ (fun H15 locs hp hzH15 hkH15 hS => ?_)
  replace hO := hO.km hα hkH15
  have h9L := hp
  replace hL := h9L
  have hgQ : gw (rst (upd R (11 + 10 * j) 1) j) := gw_sw ⟨hg, hph, hen⟩ hj (Or.inl rfl) (Or.inr rfl)
  refine lv_aload_n hx hb dL_switches_29 rfl (lv_at hl 1 rfl) ?_
  refine lv_iload hx hb dL_switches_30 (lv_at hl 5 rfl) ?_
  refine dp_Vi hF hK hN (n_X5_run l D G α R j _ hα hO hg hj c1) (cwV 1 hts gL_switches_X5_run rfl rfl rfl (by decide +kernel) ⟨Nat.le_of_ble_eq_true rfl, Nat.le_of_ble_eq_true rfl⟩) (ob_recv hK hO) hS A5_T [] rfl rfl hl.1 (Nat.le_of_ble_eq_true rfl) dL_switches_32 ⟨Nat.le_of_ble_eq_true rfl, Nat.le_of_ble_eq_true rfl⟩ (fun rH16 H16 locs hp hzH16 hkH16 hS => ?_)
  obtain ⟨rfl, h9O⟩ := hp
  replace hO := h9O
  replace hL := hL.o5 hα hkH16
  refine lv_aload_n hx hb dL_switches_35 rfl (lv_at hl 2 rfl) ?_
  refine lv_iconst (v := 3) hx hb dL_switches_36 (by decide) ?_
  refine ld_d hx hb hK hL.1 0 3 11 (by decide) (by decide) (by decide) rfl dL_switches_37 ?_
  refine lv_aload_n hx hb dL_switches_38 rfl (lv_at hl 2 rfl) ?_
  refine lv_bipush (v := 13) hx hb dL_switches_39 (by decide) ?_
  refine ld_d hx hb hK hL.1 1 3 11 (by decide) (by decide) (by decide) rfl dL_switches_41 ?_
  refine lv_iadd hx hb dL_switches_42 ?_
  refine lv_aload_n hx hb dL_switches_43 rfl (lv_at hl 2 rfl) ?_
  refine lv_bipush (v := 23) hx hb dL_switches_44 (by decide) ?_
  refine ld_d hx hb hK hL.1 2 3 11 (by decide) (by decide) (by decide) rfl dL_switches_46 ?_
  refine lv_iadd hx hb dL_switches_47 ?_
  refine lv_icmp_ne (tgt := 55) hx hb dL_switches_48 (by decide) (fun c13 => absurd c13 (fun q => q (run_3 (gd_bz hgQ.1)))) (fun c13 => ?_)
  refine lv_iconst (v := 1) hx hb dL_switches_51 (by decide) ?_
  refine lv_goto (tgt := 56) hx hb dL_switches_52 (by decide) ?_
  exact W.zret (ty := .boolean) hx hb hr rfl (fun t ht hW => ⟨⟨1, H16, rfl, ⟨rfl, _, _, hgQ, (bud_sw hbu hj (Or.inl rfl)), hO, hL⟩, ht⟩, hS.F ht⟩) hS.2.2 dL_switches_56

set_option maxHeartbeats 600000 in
set_option maxRecDepth 100000 in
theorem c_L_acts (l : Launch) (D : va_G) (G : Nat → ClassId) (α : Nat → Nat) (R P : Nat → Int32) (kd x : Int32) (c9 : Nat) (H : Heap) (hα : inj 115 α) (hO : OB D G α R H) (hL : LB D G (lm α) R P H) (hg : gd R) (hph : ph R) (hen : en R) (hbu : bud R c9) : Met l yL_acts wsL_acts ({ frames := 7, cells := 0, slots := 0, locals := 162 } : Room) (va_Pc [.ref (α 0), .ref (lm α 0), .ref (lm α 1), .ref (lm α 2), .ref (lm α 3), .int kd, .int x] (CS D G (AT α) H)) (QI (AT α) (fun r h => 1 = r ∧ ∃ R1 P1, gw R1 ∧ bud R1 (c9 + 60) ∧ OB D G α R1 h ∧ LB D G (lm α) R1 P1 h)) 0 0 (AT α) := by
  refine Met.ofW (cc := cL_acts) (maxL := 21) (ret := (some .boolean)) (by decide) rfl ?_
  intro p e s m args below meth c s₁ B0 hml hv
  obtain ⟨rfl, ⟨rfl, hK, hN⟩, hZ⟩ := hv
  have hx := B0.exec
  have hb := B0.bytes
  have hr := B0.returns
  have hts := atoms_spec (ws := wsL_acts) B0.pre
  have hown : s.vm.findClass RL = some m.cls := findClass_of_methodNamed B0.named
  have hlocks := B0.notSynchronized
  have hF : CallFix p m c cL_acts 21 s ([.ref (α 0), .ref (lm α 0), .ref (lm α 1), .ref (lm α 2), .ref (lm α 3), .int kd, .int x] : List Value).toArray wsL_acts RL := ⟨hx, hb, hml, hown, hts⟩
  have hS : va_S (AT α) s.heap s.heap [] := va_S.rf
  have hl := lv_entry ([.ref (α 0), .ref (lm α 0), .ref (lm α 1), .ref (lm α 2), .ref (lm α 3), .int kd, .int x]) (n := 21) (Nat.le_of_ble_eq_true rfl)
  rw [lg_entry_eq]
  generalize (lg_sl ([.ref (α 0), .ref (lm α 0), .ref (lm α 1), .ref (lm α 2), .ref (lm α 3), .int kd, .int x]) ++ List.replicate (21 - (lg_sl ([.ref (α 0), .ref (lm α 0), .ref (lm α 1), .ref (lm α 2), .ref (lm α 3), .int kd, .int x])).length) Slot.unset).toArray = ls at hl ⊢
  have hl : lv_has ls 21 [(0, .ref (α 0)), (1, .ref (lm α 0)), (2, .ref (lm α 1)), (3, .ref (lm α 2)), (4, .ref (lm α 3)), (5, .int kd), (6, .int x)] := hl
  have hμ := lm_inj hα
  refine lv_iload hx hb dL_acts_0 (lv_at hl 6 rfl) ?_
  refine lv_iconst (v := 3) hx hb dL_acts_2 (by decide) ?_
  refine dp_Si hF hK hN (c_L_low l D G x 3 _ (by decide) (by decide)) (va_cwS 2 hts gL_acts_L_low rfl rfl rfl (by decide +kernel) ⟨Nat.le_of_ble_eq_true rfl, Nat.le_of_ble_eq_true rfl⟩) hS nA_i [] rfl rfl hl.1 (Nat.le_of_ble_eq_true rfl) dL_acts_3 ⟨Nat.le_of_ble_eq_true rfl, Nat.le_of_ble_eq_true rfl⟩ (fun rH1 H1 locs hp hzH1 hkH1 hS => ?_)
  obtain ⟨rfl, rfl⟩ := hp
  obtain ⟨j, ej⟩ : ∃ q, q = low x 3 := ⟨_, rfl⟩
  rw [← ej]
  have hj : j < 3 := by rw [ej]; exact low_lt (by decide)
  refine lv_istore (lv' := [(7, .int (nI j)), (0, .ref (α 0)), (1, .ref (lm α 0)), (2, .ref (lm α 1)), (3, .ref (lm α 2)), (4, .ref (lm α 3)), (5, .int kd), (6, .int x)]) hx hb dL_acts_6 hl (by decide) rfl (fun ls hl => ?_)
  refine lv_bipush (v := 10) hx hb dL_acts_8 (by decide) ?_
  refine lv_iload hx hb dL_acts_10 (lv_at hl 0 rfl) ?_
  refine lv_imul hx hb dL_acts_12 ?_
  rw [show (10 : Int32) * nI j = nI (10 * j) from pk_mul 10 j]
  refine lv_istore (lv' := [(8, .int (nI (10 * j))), (7, .int (nI j)), (0, .ref (α 0)), (1, .ref (lm α 0)), (2, .ref (lm α 1)), (3, .ref (lm α 2)), (4, .ref (lm α 3)), (5, .int kd), (6, .int x)]) hx hb dL_acts_13 hl (by decide) rfl (fun ls hl => ?_)
  refine lv_iload hx hb dL_acts_15 (lv_at hl 7 rfl) ?_
  by_cases e1 : kd = 0
  · refine lv_tableIn (off := 63) (tgt := 80) hx hb dL_acts_17 (by rw [e1]; decide) (by rw [e1]; decide) (by rw [e1]; rfl) (by decide) ?_
    refine lv_aload_n hx hb dL_acts_80 rfl (lv_at hl 3 rfl) ?_
    refine lv_iload hx hb dL_acts_81 (lv_at hl 0 rfl) ?_
    refine lv_iconst (v := 3) hx hb dL_acts_83 (by decide) ?_
    refine lv_iadd hx hb dL_acts_84 ?_
    rw [show nI (10 * j) + (3 : Int32) = nI (10 * j + 3) from nI_add (10 * j) 3]
    refine ld_d hx hb hK hL.1 j 3 11 rfl hj (by decide) rfl dL_acts_85 ?_
    refine lv_iconst (v := 1) hx hb dL_acts_86 (by decide) ?_
    refine lv_icmp_ne (tgt := 107) hx hb dL_acts_87 (by decide) (fun c2 => ?_) (fun c2 => ?_)
    · refine lv_aload_n hx hb dL_acts_107 rfl (lv_at hl 3 rfl) ?_
      refine lv_iload hx hb dL_acts_108 (lv_at hl 0 rfl) ?_
      refine ld_d hx hb hK hL.1 j 0 8 rfl hj (by decide) rfl dL_acts_110 ?_
      refine lv_istore (lv' := [(9, .int (R (8 + 10 * j))), (8, .int (nI (10 * j))), (7, .int (nI j)), (0, .ref (α 0)), (1, .ref (lm α 0)), (2, .ref (lm α 1)), (3, .ref (lm α 2)), (4, .ref (lm α 3)), (5, .int kd), (6, .int x)]) hx hb dL_acts_111 hl (by decide) rfl (fun ls hl => ?_)
      refine lv_aload_n hx hb dL_acts_113 rfl (lv_at hl 4 rfl) ?_
      refine lv_iload hx hb dL_acts_114 (lv_at hl 1 rfl) ?_
      refine lv_bipush (v := 100) hx hb dL_acts_116 (by decide) ?_
      refine lv_iload hx hb dL_acts_118 (lv_at hl 9 rfl) ?_
      refine lv_iconst (v := 2) hx hb dL_acts_120 (by decide) ?_
      refine lv_ishr hx hb dL_acts_121 ?_
      refine lv_sipush (v := 401) hx hb dL_acts_122 (by decide) ?_
      refine dp_Si hF hK hN (c_L_low l D G (x >>> (2 &&& 31)) 401 _ (by decide) (by decide)) (va_cwS 2 hts gL_acts_L_low rfl rfl rfl (by decide +kernel) ⟨Nat.le_of_ble_eq_true rfl, Nat.le_of_ble_eq_true rfl⟩) hS nA_i [.int 100, .int (nI (10 * j)), .ref (lm α 0)] rfl rfl hl.1 (Nat.le_of_ble_eq_true rfl) dL_acts_125 ⟨Nat.le_of_ble_eq_true rfl, Nat.le_of_ble_eq_true rfl⟩ (fun rH2 H2 locs hp hzH2 hkH2 hS => ?_)
      obtain ⟨rfl, rfl⟩ := hp
      obtain ⟨a, ea⟩ : ∃ q, q = low (x >>> (2 &&& 31)) 401 := ⟨_, rfl⟩
      rw [← ea]
      have ha : a < 401 := by rw [ea]; exact low_lt (by decide)
      refine lv_iadd hx hb dL_acts_128 ?_
      rw [show (100 : Int32) + nI a = nI (100 + a) from nI_add 100 a]
      refine dp_iast (A := AT α) hx hb hK hL.1 (lm_T _ ⟨0, by decide, rfl⟩) hS 0 rfl (10 * j + 0) rfl (by have := (hj : j < 3); have := ((by decide) : 0 < 10); omega) (by decide) dL_acts_129 (fun H3 locs hH3 hzH3 hkH3 hS => ?_)
      replace hO := hO.ad (i := 0) hα (by decide) hkH3
      have hL : LB D G (lm α) (upd R (8 + 10 * j) (nI (100 + a))) P H3 := hL.d (w := 0) hμ hj (by decide) rfl hH3 hkH3
      refine lv_aload_n hx hb dL_acts_130 rfl (lv_at hl 4 rfl) ?_
      refine lv_iload hx hb dL_acts_131 (lv_at hl 1 rfl) ?_
      refine lv_iconst (v := 1) hx hb dL_acts_133 (by decide) ?_
      refine lv_iadd hx hb dL_acts_134 ?_
      rw [show nI (10 * j) + (1 : Int32) = nI (10 * j + 1) from nI_add (10 * j) 1]
      refine lv_bipush (v := 100) hx hb dL_acts_135 (by decide) ?_
      refine lv_iload hx hb dL_acts_137 (lv_at hl 9 rfl) ?_
      refine lv_bipush (v := 11) hx hb dL_acts_139 (by decide) ?_
      refine lv_ishr hx hb dL_acts_141 ?_
      refine lv_sipush (v := 301) hx hb dL_acts_142 (by decide) ?_
      refine dp_Si hF hK hN (c_L_low l D G (x >>> (11 &&& 31)) 301 _ (by decide) (by decide)) (va_cwS 2 hts gL_acts_L_low rfl rfl rfl (by decide +kernel) ⟨Nat.le_of_ble_eq_true rfl, Nat.le_of_ble_eq_true rfl⟩) hS nA_i [.int 100, .int (nI (10 * j + 1)), .ref (lm α 0)] rfl rfl hl.1 (Nat.le_of_ble_eq_true rfl) dL_acts_145 ⟨Nat.le_of_ble_eq_true rfl, Nat.le_of_ble_eq_true rfl⟩ (fun rH4 H4 locs hp hzH4 hkH4 hS => ?_)
      obtain ⟨rfl, rfl⟩ := hp
      obtain ⟨bd, ebd⟩ : ∃ q, q = low (x >>> (11 &&& 31)) 301 := ⟨_, rfl⟩
      rw [← ebd]
      have hbd : bd < 301 := by rw [ebd]; exact low_lt (by decide)
      refine lv_iadd hx hb dL_acts_148 ?_
      rw [show (100 : Int32) + nI bd = nI (100 + bd) from nI_add 100 bd]
      refine dp_iast (A := AT α) hx hb hK hL.1 (lm_T _ ⟨0, by decide, rfl⟩) hS 0 rfl (10 * j + 1) rfl (by have := (hj : j < 3); have := ((by decide) : 1 < 10); omega) (by decide) dL_acts_149 (fun H5 locs hH5 hzH5 hkH5 hS => ?_)
      replace hO := hO.ad (i := 0) hα (by decide) hkH5
      have hL : LB D G (lm α) (upd (upd R (8 + 10 * j) (nI (100 + a))) (9 + 10 * j) (nI (100 + bd))) P H5 := hL.d (w := 1) hμ hj (by decide) rfl hH5 hkH5
      refine lv_aload_n hx hb dL_acts_150 rfl (lv_at hl 3 rfl) ?_
      refine lv_iload hx hb dL_acts_151 (lv_at hl 2 rfl) ?_
      refine lv_aload_n hx hb dL_acts_153 rfl (lv_at hl 4 rfl) ?_
      refine lv_iload hx hb dL_acts_154 (lv_at hl 1 rfl) ?_
      refine ld_d hx hb hK hL.1 j 0 8 rfl hj (by decide) rfl dL_acts_156 ?_
      rw [show (upd (upd R (8 + 10 * j) (nI (100 + a))) (9 + 10 * j) (nI (100 + bd))) (8 + 10 * j) = nI (100 + a) from by rw [upd_ne (by omega), upd_eq]]
      refine lv_aload_n hx hb dL_acts_157 rfl (lv_at hl 4 rfl) ?_
      refine lv_iload hx hb dL_acts_158 (lv_at hl 1 rfl) ?_
      refine lv_iconst (v := 1) hx hb dL_acts_160 (by decide) ?_
      refine lv_iadd hx hb dL_acts_161 ?_
      rw [show nI (10 * j) + (1 : Int32) = nI (10 * j + 1) from nI_add (10 * j) 1]
      refine ld_d hx hb hK hL.1 j 1 9 rfl hj (by decide) rfl dL_acts_162 ?_
      rw [show (upd (upd R (8 + 10 * j) (nI (100 + a))) (9 + 10 * j) (nI (100 + bd))) (9 + 10 * j) = nI (100 + bd) from by rw [upd_eq]]
      refine dp_Vi hF hK hN (n_X5_build l D G α R j (nI (100 + a)) (nI (100 + bd)) _ hα hO hg hj (rgN (lo := 100) (hi := 500) (by omega) (by omega) (by decide)) (rgN (lo := 100) (hi := 400) (by omega) (by omega) (by decide)) (((gd_bz hg).1 j hj).1.resolve_right c2)) (cwV 3 hts gL_acts_X5_build rfl rfl rfl (by decide +kernel) ⟨Nat.le_of_ble_eq_true rfl, Nat.le_of_ble_eq_true rfl⟩) (ob_recv hK hO) hS A5_T [] rfl rfl hl.1 (Nat.le_of_ble_eq_true rfl) dL_acts_163 ⟨Nat.le_of_ble_eq_true rfl, Nat.le_of_ble_eq_true rfl⟩ (fun rH6 H6 locs hp hzH6 hkH6 hS => ?_)
      obtain ⟨rfl, h9O⟩ := hp
      replace hO := h9O
      replace hL := hL.o5 hα hkH6
      refine lv_iload hx hb dL_acts_166 (lv_at hl 0 rfl) ?_
      refine lv_icmp_ne (tgt := 175) hx hb dL_acts_168 (by decide) (fun c3 => absurd c3 (fun q => q rfl)) (fun c3 => ?_)
      refine lv_iconst (v := 1) hx hb dL_acts_171 (by decide) ?_
      refine lv_goto (tgt := 176) hx hb dL_acts_172 (by decide) ?_
      exact W.zret (ty := .boolean) hx hb hr rfl (fun t ht hW => ⟨⟨1, H6, rfl, ⟨rfl, _, _, (gw_bld ⟨hg, hph, hen⟩ hj (by omega) (by omega) (by omega) (by omega)), (bud_le (bud_c hbu (by rw [upd_ne (by omega), upd_ne (by omega)]) (by rw [upd_ne (by omega), upd_ne (by omega)])) (by omega)), hO, hL⟩, ht⟩, hS.F ht⟩) hS.2.2 dL_acts_176
    refine lv_aload_n hx hb dL_acts_90 rfl (lv_at hl 2 rfl) ?_
    refine lv_iload hx hb dL_acts_91 (lv_at hl 1 rfl) ?_
    refine lv_iconst (v := 3) hx hb dL_acts_93 (by decide) ?_
    refine dp_Vi hF hK hN (n_X5_diesel l D G α R j 3 _ hα hO hg hj (by decide)) (cwV 2 hts gL_acts_X5_diesel rfl rfl rfl (by decide +kernel) ⟨Nat.le_of_ble_eq_true rfl, Nat.le_of_ble_eq_true rfl⟩) (ob_recv hK hO) hS A5_T [] rfl rfl hl.1 (Nat.le_of_ble_eq_true rfl) dL_acts_94 ⟨Nat.le_of_ble_eq_true rfl, Nat.le_of_ble_eq_true rfl⟩ (fun rH7 H7 locs hp hzH7 hkH7 hS => ?_)
    obtain ⟨rfl, h9O⟩ := hp
    replace hO := h9O
    replace hL := hL.o5 hα hkH7
    refine lv_iconst (v := 1) hx hb dL_acts_97 (by decide) ?_
    refine lv_icmp_ne (tgt := 105) hx hb dL_acts_98 (by decide) (fun c4 => absurd c4 (fun q => q (by show (if R (11 + 10 * j) = 0 then (0 : Int32) else 1) = 1; rw [c2]; rfl))) (fun c4 => ?_)
    refine lv_iconst (v := 1) hx hb dL_acts_101 (by decide) ?_
    refine lv_goto (tgt := 106) hx hb dL_acts_102 (by decide) ?_
    exact W.zret (ty := .boolean) hx hb hr rfl (fun t ht hW => ⟨⟨1, H7, rfl, ⟨rfl, _, _, ⟨hg, hph, hen⟩, bud_le hbu (by omega), hO, hL⟩, ht⟩, hS.F ht⟩) hS.2.2 dL_acts_106
  by_cases e5 : kd = 1
  · refine lv_tableIn (off := 160) (tgt := 177) hx hb dL_acts_17 (by rw [e5]; decide) (by rw [e5]; decide) (by rw [e5]; rfl) (by decide) ?_
    refine lv_aload_n hx hb dL_acts_177 rfl (lv_at hl 3 rfl) ?_
    refine lv_iload hx hb dL_acts_178 (lv_at hl 0 rfl) ?_
    refine lv_iconst (v := 2) hx hb dL_acts_180 (by decide) ?_
    refine lv_iadd hx hb dL_acts_181 ?_
    rw [show nI (10 * j) + (2 : Int32) = nI (10 * j + 2) from nI_add (10 * j) 2]
    refine ld_d hx hb hK hL.1 j 2 10 rfl hj (by decide) rfl dL_acts_182 ?_
    refine lv_istore (lv' := [(10, .int (R (10 + 10 * j))), (8, .int (nI (10 * j))), (7, .int (nI j)), (0, .ref (α 0)), (1, .ref (lm α 0)), (2, .ref (lm α 1)), (3, .ref (lm α 2)), (4, .ref (lm α 3)), (5, .int kd), (6, .int x)]) hx hb dL_acts_183 hl (by decide) rfl (fun ls hl => ?_)
    refine lv_aload_n hx hb dL_acts_185 rfl (lv_at hl 4 rfl) ?_
    refine lv_aload_n hx hb dL_acts_186 rfl (lv_at hl 5 rfl) ?_
    refine dp_Si hF hK hN (c_L_frequency l D G (lm α) R P  _ hμ hL hg) (va_cwS 2 hts gL_acts_L_frequency rfl rfl rfl (by decide +kernel) ⟨Nat.le_of_ble_eq_true rfl, Nat.le_of_ble_eq_true rfl⟩) hS nA_i [] rfl rfl hl.1 (Nat.le_of_ble_eq_true rfl) dL_acts_187 ⟨Nat.le_of_ble_eq_true rfl, Nat.le_of_ble_eq_true rfl⟩ (fun rH8 H8 locs hp hzH8 hkH8 hS => ?_)
    obtain ⟨rfl, rfl⟩ := hp
    refine lv_istore (lv' := [(11, .int (fq R)), (10, .int (R (10 + 10 * j))), (8, .int (nI (10 * j))), (7, .int (nI j)), (0, .ref (α 0)), (1, .ref (lm α 0)), (2, .ref (lm α 1)), (3, .ref (lm α 2)), (4, .ref (lm α 3)), (5, .int kd), (6, .int x)]) hx hb dL_acts_190 hl (by decide) rfl (fun ls hl => ?_)
    refine lv_aload_n hx hb dL_acts_192 rfl (lv_at hl 5 rfl) ?_
    refine lv_iload hx hb dL_acts_193 (lv_at hl 2 rfl) ?_
    refine lv_iconst (v := 2) hx hb dL_acts_195 (by decide) ?_
    refine lv_iadd hx hb dL_acts_196 ?_
    rw [show nI (10 * j) + (2 : Int32) = nI (10 * j + 2) from nI_add (10 * j) 2]
    refine lv_iload hx hb dL_acts_197 (lv_at hl 10 rfl) ?_
    refine lv_iconst (v := 2) hx hb dL_acts_199 (by decide) ?_
    refine lv_ishr hx hb dL_acts_200 ?_
    refine lv_iconst (v := 3) hx hb dL_acts_201 (by decide) ?_
    refine dp_Si hF hK hN (c_L_low l D G (x >>> (2 &&& 31)) 3 _ (by decide) (by decide)) (va_cwS 2 hts gL_acts_L_low rfl rfl rfl (by decide +kernel) ⟨Nat.le_of_ble_eq_true rfl, Nat.le_of_ble_eq_true rfl⟩) hS nA_i [.int (nI (10 * j + 2)), .ref (lm α 0)] rfl rfl hl.1 (Nat.le_of_ble_eq_true rfl) dL_acts_202 ⟨Nat.le_of_ble_eq_true rfl, Nat.le_of_ble_eq_true rfl⟩ (fun rH9 H9 locs hp hzH9 hkH9 hS => ?_)
    obtain ⟨rfl, rfl⟩ := hp
    refine lv_if_ne (tgt := 225) hx hb dL_acts_205 (by decide) (fun c6 => ?_) (fun c6 => ?_)
    · refine lv_iload hx hb dL_acts_225 (lv_at hl 0 rfl) ?_
      refine lv_if_le (tgt := 265) hx hb dL_acts_227 (by decide) (fun c7 => ?_) (fun c7 => ?_)
      · refine lv_sipush (v := 4950) hx hb dL_acts_265 (by decide) ?_
        refine lv_iload hx hb dL_acts_268 (lv_at hl 10 rfl) ?_
        refine lv_iconst (v := 4) hx hb dL_acts_270 (by decide) ?_
        refine lv_ishr hx hb dL_acts_271 ?_
        refine lv_bipush (v := 100) hx hb dL_acts_272 (by decide) ?_
        refine dp_Si hF hK hN (c_L_low l D G (x >>> (4 &&& 31)) 100 _ (by decide) (by decide)) (va_cwS 2 hts gL_acts_L_low rfl rfl rfl (by decide +kernel) ⟨Nat.le_of_ble_eq_true rfl, Nat.le_of_ble_eq_true rfl⟩) hS nA_i [.int 4950, .int (nI (10 * j + 2)), .ref (lm α 0)] rfl rfl hl.1 (Nat.le_of_ble_eq_true rfl) dL_acts_274 ⟨Nat.le_of_ble_eq_true rfl, Nat.le_of_ble_eq_true rfl⟩ (fun rH10 H10 locs hp hzH10 hkH10 hS => ?_)
        obtain ⟨rfl, rfl⟩ := hp
        obtain ⟨sa, esa⟩ : ∃ q, q = low (x >>> (4 &&& 31)) 100 := ⟨_, rfl⟩
        rw [← esa]
        have hsa : sa < 100 := by rw [esa]; exact low_lt (by decide)
        refine lv_iadd hx hb dL_acts_277 ?_
        rw [show (4950 : Int32) + nI sa = nI (4950 + sa) from nI_add 4950 sa]
        obtain ⟨s9, hs9, e9⟩ : ∃ s, s ≤ 600 ∧ nI (4950 + sa) = nI (4700 + s) := ⟨250 + sa, by omega, congrArg nI (by omega)⟩
        rw [e9]
        refine dp_iast (A := AT α) hx hb hK hL.1 (lm_T _ ⟨0, by decide, rfl⟩) hS 0 rfl (10 * j + 2) rfl (by have := (hj : j < 3); have := ((by decide) : 2 < 10); omega) (by decide) dL_acts_278 (fun H11 locs hH11 hzH11 hkH11 hS => ?_)
        replace hO := hO.ad (i := 0) hα (by decide) hkH11
        have hL : LB D G (lm α) (upd R (10 + 10 * j) (nI (4700 + s9))) P H11 := hL.d (w := 2) hμ hj (by decide) rfl hH11 hkH11
        replace hL : LB D G (lm α) (usp R j (nI (4700 + s9))) P H11 := hL
        refine lv_aload_n hx hb dL_acts_279 rfl (lv_at hl 4 rfl) ?_
        refine lv_iload hx hb dL_acts_280 (lv_at hl 3 rfl) ?_
        refine lv_aload_n hx hb dL_acts_282 rfl (lv_at hl 5 rfl) ?_
        refine lv_iload hx hb dL_acts_283 (lv_at hl 2 rfl) ?_
        refine lv_iconst (v := 2) hx hb dL_acts_285 (by decide) ?_
        refine lv_iadd hx hb dL_acts_286 ?_
        rw [show nI (10 * j) + (2 : Int32) = nI (10 * j + 2) from nI_add (10 * j) 2]
        refine ld_d hx hb hK hL.1 j 2 10 rfl hj (by decide) rfl dL_acts_287 ?_
        rw [show (usp R j (nI (4700 + s9))) (10 + 10 * j) = nI (4700 + s9) from upd_eq]
        refine dp_Vi hF hK hN (n_X5_speed l D G α R j (nI (4700 + s9)) _ hα hO hg hj (sp_ok hs9)) (cwV 2 hts gL_acts_X5_speed rfl rfl rfl (by decide +kernel) ⟨Nat.le_of_ble_eq_true rfl, Nat.le_of_ble_eq_true rfl⟩) (ob_recv hK hO) hS A5_T [] rfl rfl hl.1 (Nat.le_of_ble_eq_true rfl) dL_acts_288 ⟨Nat.le_of_ble_eq_true rfl, Nat.le_of_ble_eq_true rfl⟩ (fun rH12 H12 locs hp hzH12 hkH12 hS => ?_)
        obtain ⟨rfl, h9O⟩ := hp
        replace hO := h9O
        replace hL := hL.o5 hα hkH12
        refine lv_iload hx hb dL_acts_291 (lv_at hl 1 rfl) ?_
        refine lv_icmp_ne (tgt := 300) hx hb dL_acts_293 (by decide) (fun c8 => absurd c8 (fun q => q rfl)) (fun c8 => ?_)
        refine lv_iconst (v := 1) hx hb dL_acts_296 (by decide) ?_
        refine lv_goto (tgt := 301) hx hb dL_acts_297 (by decide) ?_
        exact W.zret (ty := .boolean) hx hb hr rfl (fun t ht hW => ⟨⟨1, H12, rfl, ⟨rfl, _, _, (gw_usp ⟨hg, hph, hen⟩ hj hs9), (bud_le (bud_c hbu (upd_ne (by omega)) (upd_ne (by omega))) (by omega)), hO, hL⟩, ht⟩, hS.F ht⟩) hS.2.2 dL_acts_301
      refine lv_iload hx hb dL_acts_230 (lv_at hl 10 rfl) ?_
      refine lv_iconst (v := 2) hx hb dL_acts_232 (by decide) ?_
      refine lv_ishr hx hb dL_acts_233 ?_
      refine lv_iconst (v := 3) hx hb dL_acts_234 (by decide) ?_
      refine dp_Si hF hK hN (c_L_low l D G (x >>> (2 &&& 31)) 3 _ (by decide) (by decide)) (va_cwS 2 hts gL_acts_L_low rfl rfl rfl (by decide +kernel) ⟨Nat.le_of_ble_eq_true rfl, Nat.le_of_ble_eq_true rfl⟩) hS nA_i [.int (nI (10 * j + 2)), .ref (lm α 0)] rfl rfl hl.1 (Nat.le_of_ble_eq_true rfl) dL_acts_235 ⟨Nat.le_of_ble_eq_true rfl, Nat.le_of_ble_eq_true rfl⟩ (fun rH13 H13 locs hp hzH13 hkH13 hS => ?_)
      obtain ⟨rfl, rfl⟩ := hp
      refine lv_iconst (v := 1) hx hb dL_acts_238 (by decide) ?_
      refine lv_icmp_ne (tgt := 265) hx hb dL_acts_239 (by decide) (fun c9 => ?_) (fun c9 => ?_)
      · refine lv_sipush (v := 4950) hx hb dL_acts_265 (by decide) ?_
        refine lv_iload hx hb dL_acts_268 (lv_at hl 10 rfl) ?_
        refine lv_iconst (v := 4) hx hb dL_acts_270 (by decide) ?_
        refine lv_ishr hx hb dL_acts_271 ?_
        refine lv_bipush (v := 100) hx hb dL_acts_272 (by decide) ?_
        refine dp_Si hF hK hN (c_L_low l D G (x >>> (4 &&& 31)) 100 _ (by decide) (by decide)) (va_cwS 2 hts gL_acts_L_low rfl rfl rfl (by decide +kernel) ⟨Nat.le_of_ble_eq_true rfl, Nat.le_of_ble_eq_true rfl⟩) hS nA_i [.int 4950, .int (nI (10 * j + 2)), .ref (lm α 0)] rfl rfl hl.1 (Nat.le_of_ble_eq_true rfl) dL_acts_274 ⟨Nat.le_of_ble_eq_true rfl, Nat.le_of_ble_eq_true rfl⟩ (fun rH14 H14 locs hp hzH14 hkH14 hS => ?_)
        obtain ⟨rfl, rfl⟩ := hp
        obtain ⟨sa, esa⟩ : ∃ q, q = low (x >>> (4 &&& 31)) 100 := ⟨_, rfl⟩
        rw [← esa]
        have hsa : sa < 100 := by rw [esa]; exact low_lt (by decide)
        refine lv_iadd hx hb dL_acts_277 ?_
        rw [show (4950 : Int32) + nI sa = nI (4950 + sa) from nI_add 4950 sa]
        obtain ⟨s9, hs9, e9⟩ : ∃ s, s ≤ 600 ∧ nI (4950 + sa) = nI (4700 + s) := ⟨250 + sa, by omega, congrArg nI (by omega)⟩
        rw [e9]
        refine dp_iast (A := AT α) hx hb hK hL.1 (lm_T _ ⟨0, by decide, rfl⟩) hS 0 rfl (10 * j + 2) rfl (by have := (hj : j < 3); have := ((by decide) : 2 < 10); omega) (by decide) dL_acts_278 (fun H15 locs hH15 hzH15 hkH15 hS => ?_)
        replace hO := hO.ad (i := 0) hα (by decide) hkH15
        have hL : LB D G (lm α) (upd R (10 + 10 * j) (nI (4700 + s9))) P H15 := hL.d (w := 2) hμ hj (by decide) rfl hH15 hkH15
        replace hL : LB D G (lm α) (usp R j (nI (4700 + s9))) P H15 := hL
        refine lv_aload_n hx hb dL_acts_279 rfl (lv_at hl 4 rfl) ?_
        refine lv_iload hx hb dL_acts_280 (lv_at hl 3 rfl) ?_
        refine lv_aload_n hx hb dL_acts_282 rfl (lv_at hl 5 rfl) ?_
        refine lv_iload hx hb dL_acts_283 (lv_at hl 2 rfl) ?_
        refine lv_iconst (v := 2) hx hb dL_acts_285 (by decide) ?_
        refine lv_iadd hx hb dL_acts_286 ?_
        rw [show nI (10 * j) + (2 : Int32) = nI (10 * j + 2) from nI_add (10 * j) 2]
        refine ld_d hx hb hK hL.1 j 2 10 rfl hj (by decide) rfl dL_acts_287 ?_
        rw [show (usp R j (nI (4700 + s9))) (10 + 10 * j) = nI (4700 + s9) from upd_eq]
        refine dp_Vi hF hK hN (n_X5_speed l D G α R j (nI (4700 + s9)) _ hα hO hg hj (sp_ok hs9)) (cwV 2 hts gL_acts_X5_speed rfl rfl rfl (by decide +kernel) ⟨Nat.le_of_ble_eq_true rfl, Nat.le_of_ble_eq_true rfl⟩) (ob_recv hK hO) hS A5_T [] rfl rfl hl.1 (Nat.le_of_ble_eq_true rfl) dL_acts_288 ⟨Nat.le_of_ble_eq_true rfl, Nat.le_of_ble_eq_true rfl⟩ (fun rH16 H16 locs hp hzH16 hkH16 hS => ?_)
        obtain ⟨rfl, h9O⟩ := hp
        replace hO := h9O
        replace hL := hL.o5 hα hkH16
        refine lv_iload hx hb dL_acts_291 (lv_at hl 1 rfl) ?_
        refine lv_icmp_ne (tgt := 300) hx hb dL_acts_293 (by decide) (fun c10 => absurd c10 (fun q => q rfl)) (fun c10 => ?_)
        refine lv_iconst (v := 1) hx hb dL_acts_296 (by decide) ?_
        refine lv_goto (tgt := 301) hx hb dL_acts_297 (by decide) ?_
        exact W.zret (ty := .boolean) hx hb hr rfl (fun t ht hW => ⟨⟨1, H16, rfl, ⟨rfl, _, _, (gw_usp ⟨hg, hph, hen⟩ hj hs9), (bud_le (bud_c hbu (upd_ne (by omega)) (upd_ne (by omega))) (by omega)), hO, hL⟩, ht⟩, hS.F ht⟩) hS.2.2 dL_acts_301
      refine lv_iload hx hb dL_acts_242 (lv_at hl 0 rfl) ?_
      refine lv_sipush (v := 5290) hx hb dL_acts_244 (by decide) ?_
      refine lv_icmp_ge (tgt := 265) hx hb dL_acts_247 (by decide) (fun c11 => ?_) (fun c11 => ?_)
      · refine lv_sipush (v := 4950) hx hb dL_acts_265 (by decide) ?_
        refine lv_iload hx hb dL_acts_268 (lv_at hl 10 rfl) ?_
        refine lv_iconst (v := 4) hx hb dL_acts_270 (by decide) ?_
        refine lv_ishr hx hb dL_acts_271 ?_
        refine lv_bipush (v := 100) hx hb dL_acts_272 (by decide) ?_
        refine dp_Si hF hK hN (c_L_low l D G (x >>> (4 &&& 31)) 100 _ (by decide) (by decide)) (va_cwS 2 hts gL_acts_L_low rfl rfl rfl (by decide +kernel) ⟨Nat.le_of_ble_eq_true rfl, Nat.le_of_ble_eq_true rfl⟩) hS nA_i [.int 4950, .int (nI (10 * j + 2)), .ref (lm α 0)] rfl rfl hl.1 (Nat.le_of_ble_eq_true rfl) dL_acts_274 ⟨Nat.le_of_ble_eq_true rfl, Nat.le_of_ble_eq_true rfl⟩ (fun rH17 H17 locs hp hzH17 hkH17 hS => ?_)
        obtain ⟨rfl, rfl⟩ := hp
        obtain ⟨sa, esa⟩ : ∃ q, q = low (x >>> (4 &&& 31)) 100 := ⟨_, rfl⟩
        rw [← esa]
        have hsa : sa < 100 := by rw [esa]; exact low_lt (by decide)
        refine lv_iadd hx hb dL_acts_277 ?_
        rw [show (4950 : Int32) + nI sa = nI (4950 + sa) from nI_add 4950 sa]
        obtain ⟨s9, hs9, e9⟩ : ∃ s, s ≤ 600 ∧ nI (4950 + sa) = nI (4700 + s) := ⟨250 + sa, by omega, congrArg nI (by omega)⟩
        rw [e9]
        refine dp_iast (A := AT α) hx hb hK hL.1 (lm_T _ ⟨0, by decide, rfl⟩) hS 0 rfl (10 * j + 2) rfl (by have := (hj : j < 3); have := ((by decide) : 2 < 10); omega) (by decide) dL_acts_278 (fun H18 locs hH18 hzH18 hkH18 hS => ?_)
        replace hO := hO.ad (i := 0) hα (by decide) hkH18
        have hL : LB D G (lm α) (upd R (10 + 10 * j) (nI (4700 + s9))) P H18 := hL.d (w := 2) hμ hj (by decide) rfl hH18 hkH18
        replace hL : LB D G (lm α) (usp R j (nI (4700 + s9))) P H18 := hL
        refine lv_aload_n hx hb dL_acts_279 rfl (lv_at hl 4 rfl) ?_
        refine lv_iload hx hb dL_acts_280 (lv_at hl 3 rfl) ?_
        refine lv_aload_n hx hb dL_acts_282 rfl (lv_at hl 5 rfl) ?_
        refine lv_iload hx hb dL_acts_283 (lv_at hl 2 rfl) ?_
        refine lv_iconst (v := 2) hx hb dL_acts_285 (by decide) ?_
        refine lv_iadd hx hb dL_acts_286 ?_
        rw [show nI (10 * j) + (2 : Int32) = nI (10 * j + 2) from nI_add (10 * j) 2]
        refine ld_d hx hb hK hL.1 j 2 10 rfl hj (by decide) rfl dL_acts_287 ?_
        rw [show (usp R j (nI (4700 + s9))) (10 + 10 * j) = nI (4700 + s9) from upd_eq]
        refine dp_Vi hF hK hN (n_X5_speed l D G α R j (nI (4700 + s9)) _ hα hO hg hj (sp_ok hs9)) (cwV 2 hts gL_acts_X5_speed rfl rfl rfl (by decide +kernel) ⟨Nat.le_of_ble_eq_true rfl, Nat.le_of_ble_eq_true rfl⟩) (ob_recv hK hO) hS A5_T [] rfl rfl hl.1 (Nat.le_of_ble_eq_true rfl) dL_acts_288 ⟨Nat.le_of_ble_eq_true rfl, Nat.le_of_ble_eq_true rfl⟩ (fun rH19 H19 locs hp hzH19 hkH19 hS => ?_)
        obtain ⟨rfl, h9O⟩ := hp
        replace hO := h9O
        replace hL := hL.o5 hα hkH19
        refine lv_iload hx hb dL_acts_291 (lv_at hl 1 rfl) ?_
        refine lv_icmp_ne (tgt := 300) hx hb dL_acts_293 (by decide) (fun c12 => absurd c12 (fun q => q rfl)) (fun c12 => ?_)
        refine lv_iconst (v := 1) hx hb dL_acts_296 (by decide) ?_
        refine lv_goto (tgt := 301) hx hb dL_acts_297 (by decide) ?_
        exact W.zret (ty := .boolean) hx hb hr rfl (fun t ht hW => ⟨⟨1, H19, rfl, ⟨rfl, _, _, (gw_usp ⟨hg, hph, hen⟩ hj hs9), (bud_le (bud_c hbu (upd_ne (by omega)) (upd_ne (by omega))) (by omega)), hO, hL⟩, ht⟩, hS.F ht⟩) hS.2.2 dL_acts_301
      refine lv_iload hx hb dL_acts_250 (lv_at hl 0 rfl) ?_
      refine lv_iload hx hb dL_acts_252 (lv_at hl 10 rfl) ?_
      refine lv_iconst (v := 4) hx hb dL_acts_254 (by decide) ?_
      refine lv_ishr hx hb dL_acts_255 ?_
      refine lv_bipush (v := 9) hx hb dL_acts_256 (by decide) ?_
      refine dp_Si hF hK hN (c_L_low l D G (x >>> (4 &&& 31)) 9 _ (by decide) (by decide)) (va_cwS 2 hts gL_acts_L_low rfl rfl rfl (by decide +kernel) ⟨Nat.le_of_ble_eq_true rfl, Nat.le_of_ble_eq_true rfl⟩) hS nA_i [.int (fq R), .int (nI (10 * j + 2)), .ref (lm α 0)] rfl rfl hl.1 (Nat.le_of_ble_eq_true rfl) dL_acts_258 ⟨Nat.le_of_ble_eq_true rfl, Nat.le_of_ble_eq_true rfl⟩ (fun rH20 H20 locs hp hzH20 hkH20 hS => ?_)
      obtain ⟨rfl, rfl⟩ := hp
      obtain ⟨sa, esa⟩ : ∃ q, q = low (x >>> (4 &&& 31)) 9 := ⟨_, rfl⟩
      rw [← esa]
      have hsa : sa < 9 := by rw [esa]; exact low_lt (by decide)
      refine lv_iadd hx hb dL_acts_261 ?_
      refine lv_goto (tgt := 278) hx hb dL_acts_262 (by decide) ?_
      obtain ⟨s9, hs9, e9⟩ : ∃ s, s ≤ 600 ∧ (fq R) + (nI sa) = nI (4700 + s) := fq_sum c7 c11 hsa
      rw [e9]
      refine dp_iast (A := AT α) hx hb hK hL.1 (lm_T _ ⟨0, by decide, rfl⟩) hS 0 rfl (10 * j + 2) rfl (by have := (hj : j < 3); have := ((by decide) : 2 < 10); omega) (by decide) dL_acts_278 (fun H21 locs hH21 hzH21 hkH21 hS => ?_)
      replace hO := hO.ad (i := 0) hα (by decide) hkH21
      have hL : LB D G (lm α) (upd R (10 + 10 * j) (nI (4700 + s9))) P H21 := hL.d (w := 2) hμ hj (by decide) rfl hH21 hkH21
      replace hL : LB D G (lm α) (usp R j (nI (4700 + s9))) P H21 := hL
      refine lv_aload_n hx hb dL_acts_279 rfl (lv_at hl 4 rfl) ?_
      refine lv_iload hx hb dL_acts_280 (lv_at hl 3 rfl) ?_
      refine lv_aload_n hx hb dL_acts_282 rfl (lv_at hl 5 rfl) ?_
      refine lv_iload hx hb dL_acts_283 (lv_at hl 2 rfl) ?_
      refine lv_iconst (v := 2) hx hb dL_acts_285 (by decide) ?_
      refine lv_iadd hx hb dL_acts_286 ?_
      rw [show nI (10 * j) + (2 : Int32) = nI (10 * j + 2) from nI_add (10 * j) 2]
      refine ld_d hx hb hK hL.1 j 2 10 rfl hj (by decide) rfl dL_acts_287 ?_
      rw [show (usp R j (nI (4700 + s9))) (10 + 10 * j) = nI (4700 + s9) from upd_eq]
      refine dp_Vi hF hK hN (n_X5_speed l D G α R j (nI (4700 + s9)) _ hα hO hg hj (sp_ok hs9)) (cwV 2 hts gL_acts_X5_speed rfl rfl rfl (by decide +kernel) ⟨Nat.le_of_ble_eq_true rfl, Nat.le_of_ble_eq_true rfl⟩) (ob_recv hK hO) hS A5_T [] rfl rfl hl.1 (Nat.le_of_ble_eq_true rfl) dL_acts_288 ⟨Nat.le_of_ble_eq_true rfl, Nat.le_of_ble_eq_true rfl⟩ (fun rH22 H22 locs hp hzH22 hkH22 hS => ?_)
      obtain ⟨rfl, h9O⟩ := hp
      replace hO := h9O
      replace hL := hL.o5 hα hkH22
      refine lv_iload hx hb dL_acts_291 (lv_at hl 1 rfl) ?_
      refine lv_icmp_ne (tgt := 300) hx hb dL_acts_293 (by decide) (fun c13 => absurd c13 (fun q => q rfl)) (fun c13 => ?_)
      refine lv_iconst (v := 1) hx hb dL_acts_296 (by decide) ?_
      refine lv_goto (tgt := 301) hx hb dL_acts_297 (by decide) ?_
      exact W.zret (ty := .boolean) hx hb hr rfl (fun t ht hW => ⟨⟨1, H22, rfl, ⟨rfl, _, _, (gw_usp ⟨hg, hph, hen⟩ hj hs9), (bud_le (bud_c hbu (upd_ne (by omega)) (upd_ne (by omega))) (by omega)), hO, hL⟩, ht⟩, hS.F ht⟩) hS.2.2 dL_acts_301
    refine lv_sipush (v := 4700) hx hb dL_acts_208 (by decide) ?_
    refine lv_iload hx hb dL_acts_211 (lv_at hl 10 rfl) ?_
    refine lv_iconst (v := 4) hx hb dL_acts_213 (by decide) ?_
    refine lv_ishr hx hb dL_acts_214 ?_
    refine lv_sipush (v := 601) hx hb dL_acts_215 (by decide) ?_
    refine dp_Si hF hK hN (c_L_low l D G (x >>> (4 &&& 31)) 601 _ (by decide) (by decide)) (va_cwS 2 hts gL_acts_L_low rfl rfl rfl (by decide +kernel) ⟨Nat.le_of_ble_eq_true rfl, Nat.le_of_ble_eq_true rfl⟩) hS nA_i [.int 4700, .int (nI (10 * j + 2)), .ref (lm α 0)] rfl rfl hl.1 (Nat.le_of_ble_eq_true rfl) dL_acts_218 ⟨Nat.le_of_ble_eq_true rfl, Nat.le_of_ble_eq_true rfl⟩ (fun rH23 H23 locs hp hzH23 hkH23 hS => ?_)
    obtain ⟨rfl, rfl⟩ := hp
    obtain ⟨sa, esa⟩ : ∃ q, q = low (x >>> (4 &&& 31)) 601 := ⟨_, rfl⟩
    rw [← esa]
    have hsa : sa < 601 := by rw [esa]; exact low_lt (by decide)
    refine lv_iadd hx hb dL_acts_221 ?_
    rw [show (4700 : Int32) + nI sa = nI (4700 + sa) from nI_add 4700 sa]
    refine lv_goto (tgt := 278) hx hb dL_acts_222 (by decide) ?_
    obtain ⟨s9, hs9, e9⟩ : ∃ s, s ≤ 600 ∧ nI (4700 + sa) = nI (4700 + s) := ⟨sa, by omega, rfl⟩
    rw [e9]
    refine dp_iast (A := AT α) hx hb hK hL.1 (lm_T _ ⟨0, by decide, rfl⟩) hS 0 rfl (10 * j + 2) rfl (by have := (hj : j < 3); have := ((by decide) : 2 < 10); omega) (by decide) dL_acts_278 (fun H24 locs hH24 hzH24 hkH24 hS => ?_)
    replace hO := hO.ad (i := 0) hα (by decide) hkH24
    have hL : LB D G (lm α) (upd R (10 + 10 * j) (nI (4700 + s9))) P H24 := hL.d (w := 2) hμ hj (by decide) rfl hH24 hkH24
    replace hL : LB D G (lm α) (usp R j (nI (4700 + s9))) P H24 := hL
    refine lv_aload_n hx hb dL_acts_279 rfl (lv_at hl 4 rfl) ?_
    refine lv_iload hx hb dL_acts_280 (lv_at hl 3 rfl) ?_
    refine lv_aload_n hx hb dL_acts_282 rfl (lv_at hl 5 rfl) ?_
    refine lv_iload hx hb dL_acts_283 (lv_at hl 2 rfl) ?_
    refine lv_iconst (v := 2) hx hb dL_acts_285 (by decide) ?_
    refine lv_iadd hx hb dL_acts_286 ?_
    rw [show nI (10 * j) + (2 : Int32) = nI (10 * j + 2) from nI_add (10 * j) 2]
    refine ld_d hx hb hK hL.1 j 2 10 rfl hj (by decide) rfl dL_acts_287 ?_
    rw [show (usp R j (nI (4700 + s9))) (10 + 10 * j) = nI (4700 + s9) from upd_eq]
    refine dp_Vi hF hK hN (n_X5_speed l D G α R j (nI (4700 + s9)) _ hα hO hg hj (sp_ok hs9)) (cwV 2 hts gL_acts_X5_speed rfl rfl rfl (by decide +kernel) ⟨Nat.le_of_ble_eq_true rfl, Nat.le_of_ble_eq_true rfl⟩) (ob_recv hK hO) hS A5_T [] rfl rfl hl.1 (Nat.le_of_ble_eq_true rfl) dL_acts_288 ⟨Nat.le_of_ble_eq_true rfl, Nat.le_of_ble_eq_true rfl⟩ (fun rH25 H25 locs hp hzH25 hkH25 hS => ?_)
    obtain ⟨rfl, h9O⟩ := hp
    replace hO := h9O
    replace hL := hL.o5 hα hkH25
    refine lv_iload hx hb dL_acts_291 (lv_at hl 1 rfl) ?_
    refine lv_icmp_ne (tgt := 300) hx hb dL_acts_293 (by decide) (fun c14 => absurd c14 (fun q => q rfl)) (fun c14 => ?_)
    refine lv_iconst (v := 1) hx hb dL_acts_296 (by decide) ?_
    refine lv_goto (tgt := 301) hx hb dL_acts_297 (by decide) ?_
    exact W.zret (ty := .boolean) hx hb hr rfl (fun t ht hW => ⟨⟨1, H25, rfl, ⟨rfl, _, _, (gw_usp ⟨hg, hph, hen⟩ hj hs9), (bud_le (bud_c hbu (upd_ne (by omega)) (upd_ne (by omega))) (by omega)), hO, hL⟩, ht⟩, hS.F ht⟩) hS.2.2 dL_acts_301
  by_cases e15 : kd = 2
  · refine lv_tableIn (off := 160) (tgt := 177) hx hb dL_acts_17 (by rw [e15]; decide) (by rw [e15]; decide) (by rw [e15]; rfl) (by decide) ?_
    refine lv_aload_n hx hb dL_acts_177 rfl (lv_at hl 3 rfl) ?_
    refine lv_iload hx hb dL_acts_178 (lv_at hl 0 rfl) ?_
    refine lv_iconst (v := 2) hx hb dL_acts_180 (by decide) ?_
    refine lv_iadd hx hb dL_acts_181 ?_
    rw [show nI (10 * j) + (2 : Int32) = nI (10 * j + 2) from nI_add (10 * j) 2]
    refine ld_d hx hb hK hL.1 j 2 10 rfl hj (by decide) rfl dL_acts_182 ?_
    refine lv_istore (lv' := [(10, .int (R (10 + 10 * j))), (8, .int (nI (10 * j))), (7, .int (nI j)), (0, .ref (α 0)), (1, .ref (lm α 0)), (2, .ref (lm α 1)), (3, .ref (lm α 2)), (4, .ref (lm α 3)), (5, .int kd), (6, .int x)]) hx hb dL_acts_183 hl (by decide) rfl (fun ls hl => ?_)
    refine lv_aload_n hx hb dL_acts_185 rfl (lv_at hl 4 rfl) ?_
    refine lv_aload_n hx hb dL_acts_186 rfl (lv_at hl 5 rfl) ?_
    refine dp_Si hF hK hN (c_L_frequency l D G (lm α) R P  _ hμ hL hg) (va_cwS 2 hts gL_acts_L_frequency rfl rfl rfl (by decide +kernel) ⟨Nat.le_of_ble_eq_true rfl, Nat.le_of_ble_eq_true rfl⟩) hS nA_i [] rfl rfl hl.1 (Nat.le_of_ble_eq_true rfl) dL_acts_187 ⟨Nat.le_of_ble_eq_true rfl, Nat.le_of_ble_eq_true rfl⟩ (fun rH26 H26 locs hp hzH26 hkH26 hS => ?_)
    obtain ⟨rfl, rfl⟩ := hp
    refine lv_istore (lv' := [(11, .int (fq R)), (10, .int (R (10 + 10 * j))), (8, .int (nI (10 * j))), (7, .int (nI j)), (0, .ref (α 0)), (1, .ref (lm α 0)), (2, .ref (lm α 1)), (3, .ref (lm α 2)), (4, .ref (lm α 3)), (5, .int kd), (6, .int x)]) hx hb dL_acts_190 hl (by decide) rfl (fun ls hl => ?_)
    refine lv_aload_n hx hb dL_acts_192 rfl (lv_at hl 5 rfl) ?_
    refine lv_iload hx hb dL_acts_193 (lv_at hl 2 rfl) ?_
    refine lv_iconst (v := 2) hx hb dL_acts_195 (by decide) ?_
    refine lv_iadd hx hb dL_acts_196 ?_
    rw [show nI (10 * j) + (2 : Int32) = nI (10 * j + 2) from nI_add (10 * j) 2]
    refine lv_iload hx hb dL_acts_197 (lv_at hl 10 rfl) ?_
    refine lv_iconst (v := 2) hx hb dL_acts_199 (by decide) ?_
    refine lv_ishr hx hb dL_acts_200 ?_
    refine lv_iconst (v := 3) hx hb dL_acts_201 (by decide) ?_
    refine dp_Si hF hK hN (c_L_low l D G (x >>> (2 &&& 31)) 3 _ (by decide) (by decide)) (va_cwS 2 hts gL_acts_L_low rfl rfl rfl (by decide +kernel) ⟨Nat.le_of_ble_eq_true rfl, Nat.le_of_ble_eq_true rfl⟩) hS nA_i [.int (nI (10 * j + 2)), .ref (lm α 0)] rfl rfl hl.1 (Nat.le_of_ble_eq_true rfl) dL_acts_202 ⟨Nat.le_of_ble_eq_true rfl, Nat.le_of_ble_eq_true rfl⟩ (fun rH27 H27 locs hp hzH27 hkH27 hS => ?_)
    obtain ⟨rfl, rfl⟩ := hp
    refine lv_if_ne (tgt := 225) hx hb dL_acts_205 (by decide) (fun c16 => ?_) (fun c16 => ?_)
    · refine lv_iload hx hb dL_acts_225 (lv_at hl 0 rfl) ?_
      refine lv_if_le (tgt := 265) hx hb dL_acts_227 (by decide) (fun c17 => ?_) (fun c17 => ?_)
      · refine lv_sipush (v := 4950) hx hb dL_acts_265 (by decide) ?_
        refine lv_iload hx hb dL_acts_268 (lv_at hl 10 rfl) ?_
        refine lv_iconst (v := 4) hx hb dL_acts_270 (by decide) ?_
        refine lv_ishr hx hb dL_acts_271 ?_
        refine lv_bipush (v := 100) hx hb dL_acts_272 (by decide) ?_
        refine dp_Si hF hK hN (c_L_low l D G (x >>> (4 &&& 31)) 100 _ (by decide) (by decide)) (va_cwS 2 hts gL_acts_L_low rfl rfl rfl (by decide +kernel) ⟨Nat.le_of_ble_eq_true rfl, Nat.le_of_ble_eq_true rfl⟩) hS nA_i [.int 4950, .int (nI (10 * j + 2)), .ref (lm α 0)] rfl rfl hl.1 (Nat.le_of_ble_eq_true rfl) dL_acts_274 ⟨Nat.le_of_ble_eq_true rfl, Nat.le_of_ble_eq_true rfl⟩ (fun rH28 H28 locs hp hzH28 hkH28 hS => ?_)
        obtain ⟨rfl, rfl⟩ := hp
        obtain ⟨sa, esa⟩ : ∃ q, q = low (x >>> (4 &&& 31)) 100 := ⟨_, rfl⟩
        rw [← esa]
        have hsa : sa < 100 := by rw [esa]; exact low_lt (by decide)
        refine lv_iadd hx hb dL_acts_277 ?_
        rw [show (4950 : Int32) + nI sa = nI (4950 + sa) from nI_add 4950 sa]
        obtain ⟨s9, hs9, e9⟩ : ∃ s, s ≤ 600 ∧ nI (4950 + sa) = nI (4700 + s) := ⟨250 + sa, by omega, congrArg nI (by omega)⟩
        rw [e9]
        refine dp_iast (A := AT α) hx hb hK hL.1 (lm_T _ ⟨0, by decide, rfl⟩) hS 0 rfl (10 * j + 2) rfl (by have := (hj : j < 3); have := ((by decide) : 2 < 10); omega) (by decide) dL_acts_278 (fun H29 locs hH29 hzH29 hkH29 hS => ?_)
        replace hO := hO.ad (i := 0) hα (by decide) hkH29
        have hL : LB D G (lm α) (upd R (10 + 10 * j) (nI (4700 + s9))) P H29 := hL.d (w := 2) hμ hj (by decide) rfl hH29 hkH29
        replace hL : LB D G (lm α) (usp R j (nI (4700 + s9))) P H29 := hL
        refine lv_aload_n hx hb dL_acts_279 rfl (lv_at hl 4 rfl) ?_
        refine lv_iload hx hb dL_acts_280 (lv_at hl 3 rfl) ?_
        refine lv_aload_n hx hb dL_acts_282 rfl (lv_at hl 5 rfl) ?_
        refine lv_iload hx hb dL_acts_283 (lv_at hl 2 rfl) ?_
        refine lv_iconst (v := 2) hx hb dL_acts_285 (by decide) ?_
        refine lv_iadd hx hb dL_acts_286 ?_
        rw [show nI (10 * j) + (2 : Int32) = nI (10 * j + 2) from nI_add (10 * j) 2]
        refine ld_d hx hb hK hL.1 j 2 10 rfl hj (by decide) rfl dL_acts_287 ?_
        rw [show (usp R j (nI (4700 + s9))) (10 + 10 * j) = nI (4700 + s9) from upd_eq]
        refine dp_Vi hF hK hN (n_X5_speed l D G α R j (nI (4700 + s9)) _ hα hO hg hj (sp_ok hs9)) (cwV 2 hts gL_acts_X5_speed rfl rfl rfl (by decide +kernel) ⟨Nat.le_of_ble_eq_true rfl, Nat.le_of_ble_eq_true rfl⟩) (ob_recv hK hO) hS A5_T [] rfl rfl hl.1 (Nat.le_of_ble_eq_true rfl) dL_acts_288 ⟨Nat.le_of_ble_eq_true rfl, Nat.le_of_ble_eq_true rfl⟩ (fun rH30 H30 locs hp hzH30 hkH30 hS => ?_)
        obtain ⟨rfl, h9O⟩ := hp
        replace hO := h9O
        replace hL := hL.o5 hα hkH30
        refine lv_iload hx hb dL_acts_291 (lv_at hl 1 rfl) ?_
        refine lv_icmp_ne (tgt := 300) hx hb dL_acts_293 (by decide) (fun c18 => absurd c18 (fun q => q rfl)) (fun c18 => ?_)
        refine lv_iconst (v := 1) hx hb dL_acts_296 (by decide) ?_
        refine lv_goto (tgt := 301) hx hb dL_acts_297 (by decide) ?_
        exact W.zret (ty := .boolean) hx hb hr rfl (fun t ht hW => ⟨⟨1, H30, rfl, ⟨rfl, _, _, (gw_usp ⟨hg, hph, hen⟩ hj hs9), (bud_le (bud_c hbu (upd_ne (by omega)) (upd_ne (by omega))) (by omega)), hO, hL⟩, ht⟩, hS.F ht⟩) hS.2.2 dL_acts_301
      refine lv_iload hx hb dL_acts_230 (lv_at hl 10 rfl) ?_
      refine lv_iconst (v := 2) hx hb dL_acts_232 (by decide) ?_
      refine lv_ishr hx hb dL_acts_233 ?_
      refine lv_iconst (v := 3) hx hb dL_acts_234 (by decide) ?_
      refine dp_Si hF hK hN (c_L_low l D G (x >>> (2 &&& 31)) 3 _ (by decide) (by decide)) (va_cwS 2 hts gL_acts_L_low rfl rfl rfl (by decide +kernel) ⟨Nat.le_of_ble_eq_true rfl, Nat.le_of_ble_eq_true rfl⟩) hS nA_i [.int (nI (10 * j + 2)), .ref (lm α 0)] rfl rfl hl.1 (Nat.le_of_ble_eq_true rfl) dL_acts_235 ⟨Nat.le_of_ble_eq_true rfl, Nat.le_of_ble_eq_true rfl⟩ (fun rH31 H31 locs hp hzH31 hkH31 hS => ?_)
      obtain ⟨rfl, rfl⟩ := hp
      refine lv_iconst (v := 1) hx hb dL_acts_238 (by decide) ?_
      refine lv_icmp_ne (tgt := 265) hx hb dL_acts_239 (by decide) (fun c19 => ?_) (fun c19 => ?_)
      · refine lv_sipush (v := 4950) hx hb dL_acts_265 (by decide) ?_
        refine lv_iload hx hb dL_acts_268 (lv_at hl 10 rfl) ?_
        refine lv_iconst (v := 4) hx hb dL_acts_270 (by decide) ?_
        refine lv_ishr hx hb dL_acts_271 ?_
        refine lv_bipush (v := 100) hx hb dL_acts_272 (by decide) ?_
        refine dp_Si hF hK hN (c_L_low l D G (x >>> (4 &&& 31)) 100 _ (by decide) (by decide)) (va_cwS 2 hts gL_acts_L_low rfl rfl rfl (by decide +kernel) ⟨Nat.le_of_ble_eq_true rfl, Nat.le_of_ble_eq_true rfl⟩) hS nA_i [.int 4950, .int (nI (10 * j + 2)), .ref (lm α 0)] rfl rfl hl.1 (Nat.le_of_ble_eq_true rfl) dL_acts_274 ⟨Nat.le_of_ble_eq_true rfl, Nat.le_of_ble_eq_true rfl⟩ (fun rH32 H32 locs hp hzH32 hkH32 hS => ?_)
        obtain ⟨rfl, rfl⟩ := hp
        obtain ⟨sa, esa⟩ : ∃ q, q = low (x >>> (4 &&& 31)) 100 := ⟨_, rfl⟩
        rw [← esa]
        have hsa : sa < 100 := by rw [esa]; exact low_lt (by decide)
        refine lv_iadd hx hb dL_acts_277 ?_
        rw [show (4950 : Int32) + nI sa = nI (4950 + sa) from nI_add 4950 sa]
        obtain ⟨s9, hs9, e9⟩ : ∃ s, s ≤ 600 ∧ nI (4950 + sa) = nI (4700 + s) := ⟨250 + sa, by omega, congrArg nI (by omega)⟩
        rw [e9]
        refine dp_iast (A := AT α) hx hb hK hL.1 (lm_T _ ⟨0, by decide, rfl⟩) hS 0 rfl (10 * j + 2) rfl (by have := (hj : j < 3); have := ((by decide) : 2 < 10); omega) (by decide) dL_acts_278 (fun H33 locs hH33 hzH33 hkH33 hS => ?_)
        replace hO := hO.ad (i := 0) hα (by decide) hkH33
        have hL : LB D G (lm α) (upd R (10 + 10 * j) (nI (4700 + s9))) P H33 := hL.d (w := 2) hμ hj (by decide) rfl hH33 hkH33
        replace hL : LB D G (lm α) (usp R j (nI (4700 + s9))) P H33 := hL
        refine lv_aload_n hx hb dL_acts_279 rfl (lv_at hl 4 rfl) ?_
        refine lv_iload hx hb dL_acts_280 (lv_at hl 3 rfl) ?_
        refine lv_aload_n hx hb dL_acts_282 rfl (lv_at hl 5 rfl) ?_
        refine lv_iload hx hb dL_acts_283 (lv_at hl 2 rfl) ?_
        refine lv_iconst (v := 2) hx hb dL_acts_285 (by decide) ?_
        refine lv_iadd hx hb dL_acts_286 ?_
        rw [show nI (10 * j) + (2 : Int32) = nI (10 * j + 2) from nI_add (10 * j) 2]
        refine ld_d hx hb hK hL.1 j 2 10 rfl hj (by decide) rfl dL_acts_287 ?_
        rw [show (usp R j (nI (4700 + s9))) (10 + 10 * j) = nI (4700 + s9) from upd_eq]
        refine dp_Vi hF hK hN (n_X5_speed l D G α R j (nI (4700 + s9)) _ hα hO hg hj (sp_ok hs9)) (cwV 2 hts gL_acts_X5_speed rfl rfl rfl (by decide +kernel) ⟨Nat.le_of_ble_eq_true rfl, Nat.le_of_ble_eq_true rfl⟩) (ob_recv hK hO) hS A5_T [] rfl rfl hl.1 (Nat.le_of_ble_eq_true rfl) dL_acts_288 ⟨Nat.le_of_ble_eq_true rfl, Nat.le_of_ble_eq_true rfl⟩ (fun rH34 H34 locs hp hzH34 hkH34 hS => ?_)
        obtain ⟨rfl, h9O⟩ := hp
        replace hO := h9O
        replace hL := hL.o5 hα hkH34
        refine lv_iload hx hb dL_acts_291 (lv_at hl 1 rfl) ?_
        refine lv_icmp_ne (tgt := 300) hx hb dL_acts_293 (by decide) (fun c20 => absurd c20 (fun q => q rfl)) (fun c20 => ?_)
        refine lv_iconst (v := 1) hx hb dL_acts_296 (by decide) ?_
        refine lv_goto (tgt := 301) hx hb dL_acts_297 (by decide) ?_
        exact W.zret (ty := .boolean) hx hb hr rfl (fun t ht hW => ⟨⟨1, H34, rfl, ⟨rfl, _, _, (gw_usp ⟨hg, hph, hen⟩ hj hs9), (bud_le (bud_c hbu (upd_ne (by omega)) (upd_ne (by omega))) (by omega)), hO, hL⟩, ht⟩, hS.F ht⟩) hS.2.2 dL_acts_301
      refine lv_iload hx hb dL_acts_242 (lv_at hl 0 rfl) ?_
      refine lv_sipush (v := 5290) hx hb dL_acts_244 (by decide) ?_
      refine lv_icmp_ge (tgt := 265) hx hb dL_acts_247 (by decide) (fun c21 => ?_) (fun c21 => ?_)
      · refine lv_sipush (v := 4950) hx hb dL_acts_265 (by decide) ?_
        refine lv_iload hx hb dL_acts_268 (lv_at hl 10 rfl) ?_
        refine lv_iconst (v := 4) hx hb dL_acts_270 (by decide) ?_
        refine lv_ishr hx hb dL_acts_271 ?_
        refine lv_bipush (v := 100) hx hb dL_acts_272 (by decide) ?_
        refine dp_Si hF hK hN (c_L_low l D G (x >>> (4 &&& 31)) 100 _ (by decide) (by decide)) (va_cwS 2 hts gL_acts_L_low rfl rfl rfl (by decide +kernel) ⟨Nat.le_of_ble_eq_true rfl, Nat.le_of_ble_eq_true rfl⟩) hS nA_i [.int 4950, .int (nI (10 * j + 2)), .ref (lm α 0)] rfl rfl hl.1 (Nat.le_of_ble_eq_true rfl) dL_acts_274 ⟨Nat.le_of_ble_eq_true rfl, Nat.le_of_ble_eq_true rfl⟩ (fun rH35 H35 locs hp hzH35 hkH35 hS => ?_)
        obtain ⟨rfl, rfl⟩ := hp
        obtain ⟨sa, esa⟩ : ∃ q, q = low (x >>> (4 &&& 31)) 100 := ⟨_, rfl⟩
        rw [← esa]
        have hsa : sa < 100 := by rw [esa]; exact low_lt (by decide)
        refine lv_iadd hx hb dL_acts_277 ?_
        rw [show (4950 : Int32) + nI sa = nI (4950 + sa) from nI_add 4950 sa]
        obtain ⟨s9, hs9, e9⟩ : ∃ s, s ≤ 600 ∧ nI (4950 + sa) = nI (4700 + s) := ⟨250 + sa, by omega, congrArg nI (by omega)⟩
        rw [e9]
        refine dp_iast (A := AT α) hx hb hK hL.1 (lm_T _ ⟨0, by decide, rfl⟩) hS 0 rfl (10 * j + 2) rfl (by have := (hj : j < 3); have := ((by decide) : 2 < 10); omega) (by decide) dL_acts_278 (fun H36 locs hH36 hzH36 hkH36 hS => ?_)
        replace hO := hO.ad (i := 0) hα (by decide) hkH36
        have hL : LB D G (lm α) (upd R (10 + 10 * j) (nI (4700 + s9))) P H36 := hL.d (w := 2) hμ hj (by decide) rfl hH36 hkH36
        replace hL : LB D G (lm α) (usp R j (nI (4700 + s9))) P H36 := hL
        refine lv_aload_n hx hb dL_acts_279 rfl (lv_at hl 4 rfl) ?_
        refine lv_iload hx hb dL_acts_280 (lv_at hl 3 rfl) ?_
        refine lv_aload_n hx hb dL_acts_282 rfl (lv_at hl 5 rfl) ?_
        refine lv_iload hx hb dL_acts_283 (lv_at hl 2 rfl) ?_
        refine lv_iconst (v := 2) hx hb dL_acts_285 (by decide) ?_
        refine lv_iadd hx hb dL_acts_286 ?_
        rw [show nI (10 * j) + (2 : Int32) = nI (10 * j + 2) from nI_add (10 * j) 2]
        refine ld_d hx hb hK hL.1 j 2 10 rfl hj (by decide) rfl dL_acts_287 ?_
        rw [show (usp R j (nI (4700 + s9))) (10 + 10 * j) = nI (4700 + s9) from upd_eq]
        refine dp_Vi hF hK hN (n_X5_speed l D G α R j (nI (4700 + s9)) _ hα hO hg hj (sp_ok hs9)) (cwV 2 hts gL_acts_X5_speed rfl rfl rfl (by decide +kernel) ⟨Nat.le_of_ble_eq_true rfl, Nat.le_of_ble_eq_true rfl⟩) (ob_recv hK hO) hS A5_T [] rfl rfl hl.1 (Nat.le_of_ble_eq_true rfl) dL_acts_288 ⟨Nat.le_of_ble_eq_true rfl, Nat.le_of_ble_eq_true rfl⟩ (fun rH37 H37 locs hp hzH37 hkH37 hS => ?_)
        obtain ⟨rfl, h9O⟩ := hp
        replace hO := h9O
        replace hL := hL.o5 hα hkH37
        refine lv_iload hx hb dL_acts_291 (lv_at hl 1 rfl) ?_
        refine lv_icmp_ne (tgt := 300) hx hb dL_acts_293 (by decide) (fun c22 => absurd c22 (fun q => q rfl)) (fun c22 => ?_)
        refine lv_iconst (v := 1) hx hb dL_acts_296 (by decide) ?_
        refine lv_goto (tgt := 301) hx hb dL_acts_297 (by decide) ?_
        exact W.zret (ty := .boolean) hx hb hr rfl (fun t ht hW => ⟨⟨1, H37, rfl, ⟨rfl, _, _, (gw_usp ⟨hg, hph, hen⟩ hj hs9), (bud_le (bud_c hbu (upd_ne (by omega)) (upd_ne (by omega))) (by omega)), hO, hL⟩, ht⟩, hS.F ht⟩) hS.2.2 dL_acts_301
      refine lv_iload hx hb dL_acts_250 (lv_at hl 0 rfl) ?_
      refine lv_iload hx hb dL_acts_252 (lv_at hl 10 rfl) ?_
      refine lv_iconst (v := 4) hx hb dL_acts_254 (by decide) ?_
      refine lv_ishr hx hb dL_acts_255 ?_
      refine lv_bipush (v := 9) hx hb dL_acts_256 (by decide) ?_
      refine dp_Si hF hK hN (c_L_low l D G (x >>> (4 &&& 31)) 9 _ (by decide) (by decide)) (va_cwS 2 hts gL_acts_L_low rfl rfl rfl (by decide +kernel) ⟨Nat.le_of_ble_eq_true rfl, Nat.le_of_ble_eq_true rfl⟩) hS nA_i [.int (fq R), .int (nI (10 * j + 2)), .ref (lm α 0)] rfl rfl hl.1 (Nat.le_of_ble_eq_true rfl) dL_acts_258 ⟨Nat.le_of_ble_eq_true rfl, Nat.le_of_ble_eq_true rfl⟩ (fun rH38 H38 locs hp hzH38 hkH38 hS => ?_)
      obtain ⟨rfl, rfl⟩ := hp
      obtain ⟨sa, esa⟩ : ∃ q, q = low (x >>> (4 &&& 31)) 9 := ⟨_, rfl⟩
      rw [← esa]
      have hsa : sa < 9 := by rw [esa]; exact low_lt (by decide)
      refine lv_iadd hx hb dL_acts_261 ?_
      refine lv_goto (tgt := 278) hx hb dL_acts_262 (by decide) ?_
      obtain ⟨s9, hs9, e9⟩ : ∃ s, s ≤ 600 ∧ (fq R) + (nI sa) = nI (4700 + s) := fq_sum c17 c21 hsa
      rw [e9]
      refine dp_iast (A := AT α) hx hb hK hL.1 (lm_T _ ⟨0, by decide, rfl⟩) hS 0 rfl (10 * j + 2) rfl (by have := (hj : j < 3); have := ((by decide) : 2 < 10); omega) (by decide) dL_acts_278 (fun H39 locs hH39 hzH39 hkH39 hS => ?_)
      replace hO := hO.ad (i := 0) hα (by decide) hkH39
      have hL : LB D G (lm α) (upd R (10 + 10 * j) (nI (4700 + s9))) P H39 := hL.d (w := 2) hμ hj (by decide) rfl hH39 hkH39
      replace hL : LB D G (lm α) (usp R j (nI (4700 + s9))) P H39 := hL
      refine lv_aload_n hx hb dL_acts_279 rfl (lv_at hl 4 rfl) ?_
      refine lv_iload hx hb dL_acts_280 (lv_at hl 3 rfl) ?_
      refine lv_aload_n hx hb dL_acts_282 rfl (lv_at hl 5 rfl) ?_
      refine lv_iload hx hb dL_acts_283 (lv_at hl 2 rfl) ?_
      refine lv_iconst (v := 2) hx hb dL_acts_285 (by decide) ?_
      refine lv_iadd hx hb dL_acts_286 ?_
      rw [show nI (10 * j) + (2 : Int32) = nI (10 * j + 2) from nI_add (10 * j) 2]
      refine ld_d hx hb hK hL.1 j 2 10 rfl hj (by decide) rfl dL_acts_287 ?_
      rw [show (usp R j (nI (4700 + s9))) (10 + 10 * j) = nI (4700 + s9) from upd_eq]
      refine dp_Vi hF hK hN (n_X5_speed l D G α R j (nI (4700 + s9)) _ hα hO hg hj (sp_ok hs9)) (cwV 2 hts gL_acts_X5_speed rfl rfl rfl (by decide +kernel) ⟨Nat.le_of_ble_eq_true rfl, Nat.le_of_ble_eq_true rfl⟩) (ob_recv hK hO) hS A5_T [] rfl rfl hl.1 (Nat.le_of_ble_eq_true rfl) dL_acts_288 ⟨Nat.le_of_ble_eq_true rfl, Nat.le_of_ble_eq_true rfl⟩ (fun rH40 H40 locs hp hzH40 hkH40 hS => ?_)
      obtain ⟨rfl, h9O⟩ := hp
      replace hO := h9O
      replace hL := hL.o5 hα hkH40
      refine lv_iload hx hb dL_acts_291 (lv_at hl 1 rfl) ?_
      refine lv_icmp_ne (tgt := 300) hx hb dL_acts_293 (by decide) (fun c23 => absurd c23 (fun q => q rfl)) (fun c23 => ?_)
      refine lv_iconst (v := 1) hx hb dL_acts_296 (by decide) ?_
      refine lv_goto (tgt := 301) hx hb dL_acts_297 (by decide) ?_
      exact W.zret (ty := .boolean) hx hb hr rfl (fun t ht hW => ⟨⟨1, H40, rfl, ⟨rfl, _, _, (gw_usp ⟨hg, hph, hen⟩ hj hs9), (bud_le (bud_c hbu (upd_ne (by omega)) (upd_ne (by omega))) (by omega)), hO, hL⟩, ht⟩, hS.F ht⟩) hS.2.2 dL_acts_301
    refine lv_sipush (v := 4700) hx hb dL_acts_208 (by decide) ?_
    refine lv_iload hx hb dL_acts_211 (lv_at hl 10 rfl) ?_
    refine lv_iconst (v := 4) hx hb dL_acts_213 (by decide) ?_
    refine lv_ishr hx hb dL_acts_214 ?_
    refine lv_sipush (v := 601) hx hb dL_acts_215 (by decide) ?_
    refine dp_Si hF hK hN (c_L_low l D G (x >>> (4 &&& 31)) 601 _ (by decide) (by decide)) (va_cwS 2 hts gL_acts_L_low rfl rfl rfl (by decide +kernel) ⟨Nat.le_of_ble_eq_true rfl, Nat.le_of_ble_eq_true rfl⟩) hS nA_i [.int 4700, .int (nI (10 * j + 2)), .ref (lm α 0)] rfl rfl hl.1 (Nat.le_of_ble_eq_true rfl) dL_acts_218 ⟨Nat.le_of_ble_eq_true rfl, Nat.le_of_ble_eq_true rfl⟩ (fun rH41 H41 locs hp hzH41 hkH41 hS => ?_)
    obtain ⟨rfl, rfl⟩ := hp
    obtain ⟨sa, esa⟩ : ∃ q, q = low (x >>> (4 &&& 31)) 601 := ⟨_, rfl⟩
    rw [← esa]
    have hsa : sa < 601 := by rw [esa]; exact low_lt (by decide)
    refine lv_iadd hx hb dL_acts_221 ?_
    rw [show (4700 : Int32) + nI sa = nI (4700 + sa) from nI_add 4700 sa]
    refine lv_goto (tgt := 278) hx hb dL_acts_222 (by decide) ?_
    obtain ⟨s9, hs9, e9⟩ : ∃ s, s ≤ 600 ∧ nI (4700 + sa) = nI (4700 + s) := ⟨sa, by omega, rfl⟩
    rw [e9]
    refine dp_iast (A := AT α) hx hb hK hL.1 (lm_T _ ⟨0, by decide, rfl⟩) hS 0 rfl (10 * j + 2) rfl (by have := (hj : j < 3); have := ((by decide) : 2 < 10); omega) (by decide) dL_acts_278 (fun H42 locs hH42 hzH42 hkH42 hS => ?_)
    replace hO := hO.ad (i := 0) hα (by decide) hkH42
    have hL : LB D G (lm α) (upd R (10 + 10 * j) (nI (4700 + s9))) P H42 := hL.d (w := 2) hμ hj (by decide) rfl hH42 hkH42
    replace hL : LB D G (lm α) (usp R j (nI (4700 + s9))) P H42 := hL
    refine lv_aload_n hx hb dL_acts_279 rfl (lv_at hl 4 rfl) ?_
    refine lv_iload hx hb dL_acts_280 (lv_at hl 3 rfl) ?_
    refine lv_aload_n hx hb dL_acts_282 rfl (lv_at hl 5 rfl) ?_
    refine lv_iload hx hb dL_acts_283 (lv_at hl 2 rfl) ?_
    refine lv_iconst (v := 2) hx hb dL_acts_285 (by decide) ?_
    refine lv_iadd hx hb dL_acts_286 ?_
    rw [show nI (10 * j) + (2 : Int32) = nI (10 * j + 2) from nI_add (10 * j) 2]
    refine ld_d hx hb hK hL.1 j 2 10 rfl hj (by decide) rfl dL_acts_287 ?_
    rw [show (usp R j (nI (4700 + s9))) (10 + 10 * j) = nI (4700 + s9) from upd_eq]
    refine dp_Vi hF hK hN (n_X5_speed l D G α R j (nI (4700 + s9)) _ hα hO hg hj (sp_ok hs9)) (cwV 2 hts gL_acts_X5_speed rfl rfl rfl (by decide +kernel) ⟨Nat.le_of_ble_eq_true rfl, Nat.le_of_ble_eq_true rfl⟩) (ob_recv hK hO) hS A5_T [] rfl rfl hl.1 (Nat.le_of_ble_eq_true rfl) dL_acts_288 ⟨Nat.le_of_ble_eq_true rfl, Nat.le_of_ble_eq_true rfl⟩ (fun rH43 H43 locs hp hzH43 hkH43 hS => ?_)
    obtain ⟨rfl, h9O⟩ := hp
    replace hO := h9O
    replace hL := hL.o5 hα hkH43
    refine lv_iload hx hb dL_acts_291 (lv_at hl 1 rfl) ?_
    refine lv_icmp_ne (tgt := 300) hx hb dL_acts_293 (by decide) (fun c24 => absurd c24 (fun q => q rfl)) (fun c24 => ?_)
    refine lv_iconst (v := 1) hx hb dL_acts_296 (by decide) ?_
    refine lv_goto (tgt := 301) hx hb dL_acts_297 (by decide) ?_
    exact W.zret (ty := .boolean) hx hb hr rfl (fun t ht hW => ⟨⟨1, H43, rfl, ⟨rfl, _, _, (gw_usp ⟨hg, hph, hen⟩ hj hs9), (bud_le (bud_c hbu (upd_ne (by omega)) (upd_ne (by omega))) (by omega)), hO, hL⟩, ht⟩, hS.F ht⟩) hS.2.2 dL_acts_301
  by_cases e25 : kd = 3
  · refine lv_tableIn (off := 285) (tgt := 302) hx hb dL_acts_17 (by rw [e25]; decide) (by rw [e25]; decide) (by rw [e25]; rfl) (by decide) ?_
    refine lv_iload hx hb dL_acts_302 (lv_at hl 8 rfl) ?_
    refine lv_iconst (v := 4) hx hb dL_acts_304 (by decide) ?_
    refine dp_Si hF hK hN (c_L_low l D G x 4 _ (by decide) (by decide)) (va_cwS 2 hts gL_acts_L_low rfl rfl rfl (by decide +kernel) ⟨Nat.le_of_ble_eq_true rfl, Nat.le_of_ble_eq_true rfl⟩) hS nA_i [] rfl rfl hl.1 (Nat.le_of_ble_eq_true rfl) dL_acts_305 ⟨Nat.le_of_ble_eq_true rfl, Nat.le_of_ble_eq_true rfl⟩ (fun rH44 H44 locs hp hzH44 hkH44 hS => ?_)
    obtain ⟨rfl, rfl⟩ := hp
    obtain ⟨k, ek⟩ : ∃ q, q = low x 4 := ⟨_, rfl⟩
    rw [← ek]
    have hk : k < 4 := by rw [ek]; exact low_lt (by decide)
    refine lv_istore (lv' := [(12, .int (nI k)), (8, .int (nI (10 * j))), (7, .int (nI j)), (0, .ref (α 0)), (1, .ref (lm α 0)), (2, .ref (lm α 1)), (3, .ref (lm α 2)), (4, .ref (lm α 3)), (5, .int kd), (6, .int x)]) hx hb dL_acts_308 hl (by decide) rfl (fun ls hl => ?_)
    refine lv_aload_n hx hb dL_acts_310 rfl (lv_at hl 5 rfl) ?_
    refine lv_iload hx hb dL_acts_311 (lv_at hl 0 rfl) ?_
    refine ld_f hx hb hK hL.2.1 k 0 38 (congrArg nI (by omega)) hk (by decide) rfl dL_acts_313 ?_
    refine lv_istore (lv' := [(13, .int (R (38 + 3 * k))), (12, .int (nI k)), (8, .int (nI (10 * j))), (7, .int (nI j)), (0, .ref (α 0)), (1, .ref (lm α 0)), (2, .ref (lm α 1)), (3, .ref (lm α 2)), (4, .ref (lm α 3)), (5, .int kd), (6, .int x)]) hx hb dL_acts_314 hl (by decide) rfl (fun ls hl => ?_)
    refine lv_aload_n hx hb dL_acts_316 rfl (lv_at hl 6 rfl) ?_
    refine lv_iload hx hb dL_acts_317 (lv_at hl 1 rfl) ?_
    refine lv_iload hx hb dL_acts_319 (lv_at hl 10 rfl) ?_
    refine lv_iconst (v := 2) hx hb dL_acts_321 (by decide) ?_
    refine lv_ishr hx hb dL_acts_322 ?_
    refine lv_iconst (v := 2) hx hb dL_acts_323 (by decide) ?_
    refine dp_Si hF hK hN (c_L_low l D G (x >>> (2 &&& 31)) 2 _ (by decide) (by decide)) (va_cwS 2 hts gL_acts_L_low rfl rfl rfl (by decide +kernel) ⟨Nat.le_of_ble_eq_true rfl, Nat.le_of_ble_eq_true rfl⟩) hS nA_i [.int (nI k), .ref (lm α 1)] rfl rfl hl.1 (Nat.le_of_ble_eq_true rfl) dL_acts_324 ⟨Nat.le_of_ble_eq_true rfl, Nat.le_of_ble_eq_true rfl⟩ (fun rH45 H45 locs hp hzH45 hkH45 hS => ?_)
    obtain ⟨rfl, rfl⟩ := hp
    refine lv_if_ne (tgt := 343) hx hb dL_acts_327 (by decide) (fun c26 => ?_) (fun c26 => ?_)
    · refine lv_iload hx hb dL_acts_343 (lv_at hl 10 rfl) ?_
      refine lv_iconst (v := 3) hx hb dL_acts_345 (by decide) ?_
      refine lv_ishr hx hb dL_acts_346 ?_
      refine lv_bipush (v := 120) hx hb dL_acts_347 (by decide) ?_
      refine dp_Si hF hK hN (c_L_low l D G (x >>> (3 &&& 31)) 120 _ (by decide) (by decide)) (va_cwS 2 hts gL_acts_L_low rfl rfl rfl (by decide +kernel) ⟨Nat.le_of_ble_eq_true rfl, Nat.le_of_ble_eq_true rfl⟩) hS nA_i [.int (nI k), .ref (lm α 1)] rfl rfl hl.1 (Nat.le_of_ble_eq_true rfl) dL_acts_349 ⟨Nat.le_of_ble_eq_true rfl, Nat.le_of_ble_eq_true rfl⟩ (fun rH46 H46 locs hp hzH46 hkH46 hS => ?_)
      obtain ⟨rfl, rfl⟩ := hp
      obtain ⟨va, eva⟩ : ∃ q, q = low (x >>> (3 &&& 31)) 120 := ⟨_, rfl⟩
      rw [← eva]
      have hva : va < 120 := by rw [eva]; exact low_lt (by decide)
      refine dp_iast (A := AT α) hx hb hK hL.2.1 (lm_T _ ⟨1, by decide, rfl⟩) hS 0 rfl (4 * 0 + k) (congrArg nI (by omega)) (by have := (hk : k < 4); omega) (by decide) dL_acts_352 (fun H47 locs hH47 hzH47 hkH47 hS => ?_)
      replace hO := hO.ad (i := 1) hα (by decide) hkH47
      have hL : LB D G (lm α) (upd R (38 + 3 * k) (nI va)) P H47 := hL.f (g := 0) hμ hk (by decide) rfl hH47 hkH47
      refine lv_aload_n hx hb dL_acts_353 rfl (lv_at hl 4 rfl) ?_
      refine lv_iload hx hb dL_acts_354 (lv_at hl 1 rfl) ?_
      refine lv_aload_n hx hb dL_acts_356 rfl (lv_at hl 6 rfl) ?_
      refine lv_iload hx hb dL_acts_357 (lv_at hl 1 rfl) ?_
      refine ld_f hx hb hK hL.2.1 k 0 38 (congrArg nI (by omega)) hk (by decide) rfl dL_acts_359 ?_
      rw [show (upd R (38 + 3 * k) (nI va)) (38 + 3 * k) = (nI va) from upd_eq]
      refine dp_Vi hF hK hN (n_X5_load l D G α R k (nI va) _ hα hO hg hk (rgN (lo := 0) (hi := 300) (Nat.zero_le _) (by omega) (by decide))) (cwV 2 hts gL_acts_X5_load rfl rfl rfl (by decide +kernel) ⟨Nat.le_of_ble_eq_true rfl, Nat.le_of_ble_eq_true rfl⟩) (ob_recv hK hO) hS A5_T [] rfl rfl hl.1 (Nat.le_of_ble_eq_true rfl) dL_acts_360 ⟨Nat.le_of_ble_eq_true rfl, Nat.le_of_ble_eq_true rfl⟩ (fun rH48 H48 locs hp hzH48 hkH48 hS => ?_)
      obtain ⟨rfl, h9O⟩ := hp
      replace hO := h9O
      replace hL := hL.o5 hα hkH48
      refine lv_iload hx hb dL_acts_363 (lv_at hl 0 rfl) ?_
      refine lv_icmp_ne (tgt := 372) hx hb dL_acts_365 (by decide) (fun c27 => absurd c27 (fun q => q rfl)) (fun c27 => ?_)
      refine lv_iconst (v := 1) hx hb dL_acts_368 (by decide) ?_
      refine lv_goto (tgt := 373) hx hb dL_acts_369 (by decide) ?_
      exact W.zret (ty := .boolean) hx hb hr rfl (fun t ht hW => ⟨⟨1, H48, rfl, ⟨rfl, _, _, (gw_load ⟨hg, hph, hen⟩ hk (by omega)), (bud_le (bud_c hbu (upd_ne (by omega)) (upd_ne (by omega))) (by omega)), hO, hL⟩, ht⟩, hS.F ht⟩) hS.2.2 dL_acts_373
    refine lv_iload hx hb dL_acts_330 (lv_at hl 10 rfl) ?_
    refine lv_iconst (v := 3) hx hb dL_acts_332 (by decide) ?_
    refine lv_ishr hx hb dL_acts_333 ?_
    refine lv_sipush (v := 301) hx hb dL_acts_334 (by decide) ?_
    refine dp_Si hF hK hN (c_L_low l D G (x >>> (3 &&& 31)) 301 _ (by decide) (by decide)) (va_cwS 2 hts gL_acts_L_low rfl rfl rfl (by decide +kernel) ⟨Nat.le_of_ble_eq_true rfl, Nat.le_of_ble_eq_true rfl⟩) hS nA_i [.int (nI k), .ref (lm α 1)] rfl rfl hl.1 (Nat.le_of_ble_eq_true rfl) dL_acts_337 ⟨Nat.le_of_ble_eq_true rfl, Nat.le_of_ble_eq_true rfl⟩ (fun rH49 H49 locs hp hzH49 hkH49 hS => ?_)
    obtain ⟨rfl, rfl⟩ := hp
    obtain ⟨va, eva⟩ : ∃ q, q = low (x >>> (3 &&& 31)) 301 := ⟨_, rfl⟩
    rw [← eva]
    have hva : va < 301 := by rw [eva]; exact low_lt (by decide)
    refine lv_goto (tgt := 352) hx hb dL_acts_340 (by decide) ?_
    refine dp_iast (A := AT α) hx hb hK hL.2.1 (lm_T _ ⟨1, by decide, rfl⟩) hS 0 rfl (4 * 0 + k) (congrArg nI (by omega)) (by have := (hk : k < 4); omega) (by decide) dL_acts_352 (fun H50 locs hH50 hzH50 hkH50 hS => ?_)
    replace hO := hO.ad (i := 1) hα (by decide) hkH50
    have hL : LB D G (lm α) (upd R (38 + 3 * k) (nI va)) P H50 := hL.f (g := 0) hμ hk (by decide) rfl hH50 hkH50
    refine lv_aload_n hx hb dL_acts_353 rfl (lv_at hl 4 rfl) ?_
    refine lv_iload hx hb dL_acts_354 (lv_at hl 1 rfl) ?_
    refine lv_aload_n hx hb dL_acts_356 rfl (lv_at hl 6 rfl) ?_
    refine lv_iload hx hb dL_acts_357 (lv_at hl 1 rfl) ?_
    refine ld_f hx hb hK hL.2.1 k 0 38 (congrArg nI (by omega)) hk (by decide) rfl dL_acts_359 ?_
    rw [show (upd R (38 + 3 * k) (nI va)) (38 + 3 * k) = (nI va) from upd_eq]
    refine dp_Vi hF hK hN (n_X5_load l D G α R k (nI va) _ hα hO hg hk (rgN (lo := 0) (hi := 300) (Nat.zero_le _) (by omega) (by decide))) (cwV 2 hts gL_acts_X5_load rfl rfl rfl (by decide +kernel) ⟨Nat.le_of_ble_eq_true rfl, Nat.le_of_ble_eq_true rfl⟩) (ob_recv hK hO) hS A5_T [] rfl rfl hl.1 (Nat.le_of_ble_eq_true rfl) dL_acts_360 ⟨Nat.le_of_ble_eq_true rfl, Nat.le_of_ble_eq_true rfl⟩ (fun rH51 H51 locs hp hzH51 hkH51 hS => ?_)
    obtain ⟨rfl, h9O⟩ := hp
    replace hO := h9O
    replace hL := hL.o5 hα hkH51
    refine lv_iload hx hb dL_acts_363 (lv_at hl 0 rfl) ?_
    refine lv_icmp_ne (tgt := 372) hx hb dL_acts_365 (by decide) (fun c28 => absurd c28 (fun q => q rfl)) (fun c28 => ?_)
    refine lv_iconst (v := 1) hx hb dL_acts_368 (by decide) ?_
    refine lv_goto (tgt := 373) hx hb dL_acts_369 (by decide) ?_
    exact W.zret (ty := .boolean) hx hb hr rfl (fun t ht hW => ⟨⟨1, H51, rfl, ⟨rfl, _, _, (gw_load ⟨hg, hph, hen⟩ hk (by omega)), (bud_le (bud_c hbu (upd_ne (by omega)) (upd_ne (by omega))) (by omega)), hO, hL⟩, ht⟩, hS.F ht⟩) hS.2.2 dL_acts_373
  by_cases e29 : kd = 4
  · refine lv_tableIn (off := 285) (tgt := 302) hx hb dL_acts_17 (by rw [e29]; decide) (by rw [e29]; decide) (by rw [e29]; rfl) (by decide) ?_
    refine lv_iload hx hb dL_acts_302 (lv_at hl 8 rfl) ?_
    refine lv_iconst (v := 4) hx hb dL_acts_304 (by decide) ?_
    refine dp_Si hF hK hN (c_L_low l D G x 4 _ (by decide) (by decide)) (va_cwS 2 hts gL_acts_L_low rfl rfl rfl (by decide +kernel) ⟨Nat.le_of_ble_eq_true rfl, Nat.le_of_ble_eq_true rfl⟩) hS nA_i [] rfl rfl hl.1 (Nat.le_of_ble_eq_true rfl) dL_acts_305 ⟨Nat.le_of_ble_eq_true rfl, Nat.le_of_ble_eq_true rfl⟩ (fun rH52 H52 locs hp hzH52 hkH52 hS => ?_)
    obtain ⟨rfl, rfl⟩ := hp
    obtain ⟨k, ek⟩ : ∃ q, q = low x 4 := ⟨_, rfl⟩
    rw [← ek]
    have hk : k < 4 := by rw [ek]; exact low_lt (by decide)
    refine lv_istore (lv' := [(12, .int (nI k)), (8, .int (nI (10 * j))), (7, .int (nI j)), (0, .ref (α 0)), (1, .ref (lm α 0)), (2, .ref (lm α 1)), (3, .ref (lm α 2)), (4, .ref (lm α 3)), (5, .int kd), (6, .int x)]) hx hb dL_acts_308 hl (by decide) rfl (fun ls hl => ?_)
    refine lv_aload_n hx hb dL_acts_310 rfl (lv_at hl 5 rfl) ?_
    refine lv_iload hx hb dL_acts_311 (lv_at hl 0 rfl) ?_
    refine ld_f hx hb hK hL.2.1 k 0 38 (congrArg nI (by omega)) hk (by decide) rfl dL_acts_313 ?_
    refine lv_istore (lv' := [(13, .int (R (38 + 3 * k))), (12, .int (nI k)), (8, .int (nI (10 * j))), (7, .int (nI j)), (0, .ref (α 0)), (1, .ref (lm α 0)), (2, .ref (lm α 1)), (3, .ref (lm α 2)), (4, .ref (lm α 3)), (5, .int kd), (6, .int x)]) hx hb dL_acts_314 hl (by decide) rfl (fun ls hl => ?_)
    refine lv_aload_n hx hb dL_acts_316 rfl (lv_at hl 6 rfl) ?_
    refine lv_iload hx hb dL_acts_317 (lv_at hl 1 rfl) ?_
    refine lv_iload hx hb dL_acts_319 (lv_at hl 10 rfl) ?_
    refine lv_iconst (v := 2) hx hb dL_acts_321 (by decide) ?_
    refine lv_ishr hx hb dL_acts_322 ?_
    refine lv_iconst (v := 2) hx hb dL_acts_323 (by decide) ?_
    refine dp_Si hF hK hN (c_L_low l D G (x >>> (2 &&& 31)) 2 _ (by decide) (by decide)) (va_cwS 2 hts gL_acts_L_low rfl rfl rfl (by decide +kernel) ⟨Nat.le_of_ble_eq_true rfl, Nat.le_of_ble_eq_true rfl⟩) hS nA_i [.int (nI k), .ref (lm α 1)] rfl rfl hl.1 (Nat.le_of_ble_eq_true rfl) dL_acts_324 ⟨Nat.le_of_ble_eq_true rfl, Nat.le_of_ble_eq_true rfl⟩ (fun rH53 H53 locs hp hzH53 hkH53 hS => ?_)
    obtain ⟨rfl, rfl⟩ := hp
    refine lv_if_ne (tgt := 343) hx hb dL_acts_327 (by decide) (fun c30 => ?_) (fun c30 => ?_)
    · refine lv_iload hx hb dL_acts_343 (lv_at hl 10 rfl) ?_
      refine lv_iconst (v := 3) hx hb dL_acts_345 (by decide) ?_
      refine lv_ishr hx hb dL_acts_346 ?_
      refine lv_bipush (v := 120) hx hb dL_acts_347 (by decide) ?_
      refine dp_Si hF hK hN (c_L_low l D G (x >>> (3 &&& 31)) 120 _ (by decide) (by decide)) (va_cwS 2 hts gL_acts_L_low rfl rfl rfl (by decide +kernel) ⟨Nat.le_of_ble_eq_true rfl, Nat.le_of_ble_eq_true rfl⟩) hS nA_i [.int (nI k), .ref (lm α 1)] rfl rfl hl.1 (Nat.le_of_ble_eq_true rfl) dL_acts_349 ⟨Nat.le_of_ble_eq_true rfl, Nat.le_of_ble_eq_true rfl⟩ (fun rH54 H54 locs hp hzH54 hkH54 hS => ?_)
      obtain ⟨rfl, rfl⟩ := hp
      obtain ⟨va, eva⟩ : ∃ q, q = low (x >>> (3 &&& 31)) 120 := ⟨_, rfl⟩
      rw [← eva]
      have hva : va < 120 := by rw [eva]; exact low_lt (by decide)
      refine dp_iast (A := AT α) hx hb hK hL.2.1 (lm_T _ ⟨1, by decide, rfl⟩) hS 0 rfl (4 * 0 + k) (congrArg nI (by omega)) (by have := (hk : k < 4); omega) (by decide) dL_acts_352 (fun H55 locs hH55 hzH55 hkH55 hS => ?_)
      replace hO := hO.ad (i := 1) hα (by decide) hkH55
      have hL : LB D G (lm α) (upd R (38 + 3 * k) (nI va)) P H55 := hL.f (g := 0) hμ hk (by decide) rfl hH55 hkH55
      refine lv_aload_n hx hb dL_acts_353 rfl (lv_at hl 4 rfl) ?_
      refine lv_iload hx hb dL_acts_354 (lv_at hl 1 rfl) ?_
      refine lv_aload_n hx hb dL_acts_356 rfl (lv_at hl 6 rfl) ?_
      refine lv_iload hx hb dL_acts_357 (lv_at hl 1 rfl) ?_
      refine ld_f hx hb hK hL.2.1 k 0 38 (congrArg nI (by omega)) hk (by decide) rfl dL_acts_359 ?_
      rw [show (upd R (38 + 3 * k) (nI va)) (38 + 3 * k) = (nI va) from upd_eq]
      refine dp_Vi hF hK hN (n_X5_load l D G α R k (nI va) _ hα hO hg hk (rgN (lo := 0) (hi := 300) (Nat.zero_le _) (by omega) (by decide))) (cwV 2 hts gL_acts_X5_load rfl rfl rfl (by decide +kernel) ⟨Nat.le_of_ble_eq_true rfl, Nat.le_of_ble_eq_true rfl⟩) (ob_recv hK hO) hS A5_T [] rfl rfl hl.1 (Nat.le_of_ble_eq_true rfl) dL_acts_360 ⟨Nat.le_of_ble_eq_true rfl, Nat.le_of_ble_eq_true rfl⟩ (fun rH56 H56 locs hp hzH56 hkH56 hS => ?_)
      obtain ⟨rfl, h9O⟩ := hp
      replace hO := h9O
      replace hL := hL.o5 hα hkH56
      refine lv_iload hx hb dL_acts_363 (lv_at hl 0 rfl) ?_
      refine lv_icmp_ne (tgt := 372) hx hb dL_acts_365 (by decide) (fun c31 => absurd c31 (fun q => q rfl)) (fun c31 => ?_)
      refine lv_iconst (v := 1) hx hb dL_acts_368 (by decide) ?_
      refine lv_goto (tgt := 373) hx hb dL_acts_369 (by decide) ?_
      exact W.zret (ty := .boolean) hx hb hr rfl (fun t ht hW => ⟨⟨1, H56, rfl, ⟨rfl, _, _, (gw_load ⟨hg, hph, hen⟩ hk (by omega)), (bud_le (bud_c hbu (upd_ne (by omega)) (upd_ne (by omega))) (by omega)), hO, hL⟩, ht⟩, hS.F ht⟩) hS.2.2 dL_acts_373
    refine lv_iload hx hb dL_acts_330 (lv_at hl 10 rfl) ?_
    refine lv_iconst (v := 3) hx hb dL_acts_332 (by decide) ?_
    refine lv_ishr hx hb dL_acts_333 ?_
    refine lv_sipush (v := 301) hx hb dL_acts_334 (by decide) ?_
    refine dp_Si hF hK hN (c_L_low l D G (x >>> (3 &&& 31)) 301 _ (by decide) (by decide)) (va_cwS 2 hts gL_acts_L_low rfl rfl rfl (by decide +kernel) ⟨Nat.le_of_ble_eq_true rfl, Nat.le_of_ble_eq_true rfl⟩) hS nA_i [.int (nI k), .ref (lm α 1)] rfl rfl hl.1 (Nat.le_of_ble_eq_true rfl) dL_acts_337 ⟨Nat.le_of_ble_eq_true rfl, Nat.le_of_ble_eq_true rfl⟩ (fun rH57 H57 locs hp hzH57 hkH57 hS => ?_)
    obtain ⟨rfl, rfl⟩ := hp
    obtain ⟨va, eva⟩ : ∃ q, q = low (x >>> (3 &&& 31)) 301 := ⟨_, rfl⟩
    rw [← eva]
    have hva : va < 301 := by rw [eva]; exact low_lt (by decide)
    refine lv_goto (tgt := 352) hx hb dL_acts_340 (by decide) ?_
    refine dp_iast (A := AT α) hx hb hK hL.2.1 (lm_T _ ⟨1, by decide, rfl⟩) hS 0 rfl (4 * 0 + k) (congrArg nI (by omega)) (by have := (hk : k < 4); omega) (by decide) dL_acts_352 (fun H58 locs hH58 hzH58 hkH58 hS => ?_)
    replace hO := hO.ad (i := 1) hα (by decide) hkH58
    have hL : LB D G (lm α) (upd R (38 + 3 * k) (nI va)) P H58 := hL.f (g := 0) hμ hk (by decide) rfl hH58 hkH58
    refine lv_aload_n hx hb dL_acts_353 rfl (lv_at hl 4 rfl) ?_
    refine lv_iload hx hb dL_acts_354 (lv_at hl 1 rfl) ?_
    refine lv_aload_n hx hb dL_acts_356 rfl (lv_at hl 6 rfl) ?_
    refine lv_iload hx hb dL_acts_357 (lv_at hl 1 rfl) ?_
    refine ld_f hx hb hK hL.2.1 k 0 38 (congrArg nI (by omega)) hk (by decide) rfl dL_acts_359 ?_
    rw [show (upd R (38 + 3 * k) (nI va)) (38 + 3 * k) = (nI va) from upd_eq]
    refine dp_Vi hF hK hN (n_X5_load l D G α R k (nI va) _ hα hO hg hk (rgN (lo := 0) (hi := 300) (Nat.zero_le _) (by omega) (by decide))) (cwV 2 hts gL_acts_X5_load rfl rfl rfl (by decide +kernel) ⟨Nat.le_of_ble_eq_true rfl, Nat.le_of_ble_eq_true rfl⟩) (ob_recv hK hO) hS A5_T [] rfl rfl hl.1 (Nat.le_of_ble_eq_true rfl) dL_acts_360 ⟨Nat.le_of_ble_eq_true rfl, Nat.le_of_ble_eq_true rfl⟩ (fun rH59 H59 locs hp hzH59 hkH59 hS => ?_)
    obtain ⟨rfl, h9O⟩ := hp
    replace hO := h9O
    replace hL := hL.o5 hα hkH59
    refine lv_iload hx hb dL_acts_363 (lv_at hl 0 rfl) ?_
    refine lv_icmp_ne (tgt := 372) hx hb dL_acts_365 (by decide) (fun c32 => absurd c32 (fun q => q rfl)) (fun c32 => ?_)
    refine lv_iconst (v := 1) hx hb dL_acts_368 (by decide) ?_
    refine lv_goto (tgt := 373) hx hb dL_acts_369 (by decide) ?_
    exact W.zret (ty := .boolean) hx hb hr rfl (fun t ht hW => ⟨⟨1, H59, rfl, ⟨rfl, _, _, (gw_load ⟨hg, hph, hen⟩ hk (by omega)), (bud_le (bud_c hbu (upd_ne (by omega)) (upd_ne (by omega))) (by omega)), hO, hL⟩, ht⟩, hS.F ht⟩) hS.2.2 dL_acts_373
  by_cases e33 : kd = 5
  · refine lv_tableIn (off := 357) (tgt := 374) hx hb dL_acts_17 (by rw [e33]; decide) (by rw [e33]; decide) (by rw [e33]; rfl) (by decide) ?_
    refine lv_iload hx hb dL_acts_374 (lv_at hl 8 rfl) ?_
    refine lv_iconst (v := 4) hx hb dL_acts_376 (by decide) ?_
    refine dp_Si hF hK hN (c_L_low l D G x 4 _ (by decide) (by decide)) (va_cwS 2 hts gL_acts_L_low rfl rfl rfl (by decide +kernel) ⟨Nat.le_of_ble_eq_true rfl, Nat.le_of_ble_eq_true rfl⟩) hS nA_i [] rfl rfl hl.1 (Nat.le_of_ble_eq_true rfl) dL_acts_377 ⟨Nat.le_of_ble_eq_true rfl, Nat.le_of_ble_eq_true rfl⟩ (fun rH60 H60 locs hp hzH60 hkH60 hS => ?_)
    obtain ⟨rfl, rfl⟩ := hp
    obtain ⟨k, ek⟩ : ∃ q, q = low x 4 := ⟨_, rfl⟩
    rw [← ek]
    have hk : k < 4 := by rw [ek]; exact low_lt (by decide)
    refine lv_istore (lv' := [(14, .int (nI k)), (8, .int (nI (10 * j))), (7, .int (nI j)), (0, .ref (α 0)), (1, .ref (lm α 0)), (2, .ref (lm α 1)), (3, .ref (lm α 2)), (4, .ref (lm α 3)), (5, .int kd), (6, .int x)]) hx hb dL_acts_380 hl (by decide) rfl (fun ls hl => ?_)
    refine lv_aload_n hx hb dL_acts_382 rfl (lv_at hl 5 rfl) ?_
    refine lv_iconst (v := 4) hx hb dL_acts_383 (by decide) ?_
    refine lv_iload hx hb dL_acts_384 (lv_at hl 0 rfl) ?_
    refine lv_iadd hx hb dL_acts_386 ?_
    rw [show (4 : Int32) + nI k = nI (4 + k) from nI_add 4 k]
    refine ld_f hx hb hK hL.2.1 k 1 39 (congrArg nI (by omega)) hk (by decide) rfl dL_acts_387 ?_
    refine lv_istore (lv' := [(15, .int (R (39 + 3 * k))), (14, .int (nI k)), (8, .int (nI (10 * j))), (7, .int (nI j)), (0, .ref (α 0)), (1, .ref (lm α 0)), (2, .ref (lm α 1)), (3, .ref (lm α 2)), (4, .ref (lm α 3)), (5, .int kd), (6, .int x)]) hx hb dL_acts_388 hl (by decide) rfl (fun ls hl => ?_)
    refine lv_aload_n hx hb dL_acts_390 rfl (lv_at hl 6 rfl) ?_
    refine lv_iconst (v := 4) hx hb dL_acts_391 (by decide) ?_
    refine lv_iload hx hb dL_acts_392 (lv_at hl 1 rfl) ?_
    refine lv_iadd hx hb dL_acts_394 ?_
    rw [show (4 : Int32) + nI k = nI (4 + k) from nI_add 4 k]
    refine lv_iload hx hb dL_acts_395 (lv_at hl 10 rfl) ?_
    refine lv_iconst (v := 2) hx hb dL_acts_397 (by decide) ?_
    refine lv_ishr hx hb dL_acts_398 ?_
    refine lv_iconst (v := 3) hx hb dL_acts_399 (by decide) ?_
    refine dp_Si hF hK hN (c_L_low l D G (x >>> (2 &&& 31)) 3 _ (by decide) (by decide)) (va_cwS 2 hts gL_acts_L_low rfl rfl rfl (by decide +kernel) ⟨Nat.le_of_ble_eq_true rfl, Nat.le_of_ble_eq_true rfl⟩) hS nA_i [.int (nI (4 + k)), .ref (lm α 1)] rfl rfl hl.1 (Nat.le_of_ble_eq_true rfl) dL_acts_400 ⟨Nat.le_of_ble_eq_true rfl, Nat.le_of_ble_eq_true rfl⟩ (fun rH61 H61 locs hp hzH61 hkH61 hS => ?_)
    obtain ⟨rfl, rfl⟩ := hp
    refine lv_if_le (tgt := 410) hx hb dL_acts_403 (by decide) (fun c34 => ?_) (fun c34 => ?_)
    · refine lv_iconst (v := 0) hx hb dL_acts_410 (by decide) ?_
      refine dp_iast (A := AT α) hx hb hK hL.2.1 (lm_T _ ⟨1, by decide, rfl⟩) hS 0 rfl (4 * 1 + k) (congrArg nI (by omega)) (by have := (hk : k < 4); omega) (by decide) dL_acts_411 (fun H62 locs hH62 hzH62 hkH62 hS => ?_)
      replace hO := hO.ad (i := 1) hα (by decide) hkH62
      have hL : LB D G (lm α) (upd R (39 + 3 * k) 0) P H62 := hL.f (g := 1) hμ hk (by decide) rfl hH62 hkH62
      refine lv_aload_n hx hb dL_acts_412 rfl (lv_at hl 4 rfl) ?_
      refine lv_iload hx hb dL_acts_413 (lv_at hl 1 rfl) ?_
      refine lv_aload_n hx hb dL_acts_415 rfl (lv_at hl 6 rfl) ?_
      refine lv_iconst (v := 4) hx hb dL_acts_416 (by decide) ?_
      refine lv_iload hx hb dL_acts_417 (lv_at hl 1 rfl) ?_
      refine lv_iadd hx hb dL_acts_419 ?_
      rw [show (4 : Int32) + nI k = nI (4 + k) from nI_add 4 k]
      refine ld_f hx hb hK hL.2.1 k 1 39 (congrArg nI (by omega)) hk (by decide) rfl dL_acts_420 ?_
      rw [show (upd R (39 + 3 * k) 0) (39 + 3 * k) = 0 from upd_eq]
      refine dp_Vi hF hK hN (n_X5_feeder l D G α R k 0 _ hα hO hg hk (by decide)) (cwV 2 hts gL_acts_X5_feeder rfl rfl rfl (by decide +kernel) ⟨Nat.le_of_ble_eq_true rfl, Nat.le_of_ble_eq_true rfl⟩) (ob_recv hK hO) hS A5_T [] rfl rfl hl.1 (Nat.le_of_ble_eq_true rfl) dL_acts_421 ⟨Nat.le_of_ble_eq_true rfl, Nat.le_of_ble_eq_true rfl⟩ (fun rH63 H63 locs hp hzH63 hkH63 hS => ?_)
      obtain ⟨rfl, h9O⟩ := hp
      replace hO := h9O
      replace hL := hL.o5 hα hkH63
      refine lv_iload hx hb dL_acts_424 (lv_at hl 0 rfl) ?_
      refine lv_icmp_ne (tgt := 433) hx hb dL_acts_426 (by decide) (fun c35 => absurd c35 (fun q => q (one_z ((gd_bz hg).2 k hk)))) (fun c35 => ?_)
      refine lv_iconst (v := 1) hx hb dL_acts_429 (by decide) ?_
      refine lv_goto (tgt := 434) hx hb dL_acts_430 (by decide) ?_
      exact W.zret (ty := .boolean) hx hb hr rfl (fun t ht hW => ⟨⟨1, H63, rfl, ⟨rfl, _, _, (gw_feed ⟨hg, hph, hen⟩ hk (Or.inl rfl)), (bud_le (bud_c hbu (upd_ne (by omega)) (upd_ne (by omega))) (by omega)), hO, hL⟩, ht⟩, hS.F ht⟩) hS.2.2 dL_acts_434
    refine lv_iconst (v := 1) hx hb dL_acts_406 (by decide) ?_
    refine lv_goto (tgt := 411) hx hb dL_acts_407 (by decide) ?_
    refine dp_iast (A := AT α) hx hb hK hL.2.1 (lm_T _ ⟨1, by decide, rfl⟩) hS 0 rfl (4 * 1 + k) (congrArg nI (by omega)) (by have := (hk : k < 4); omega) (by decide) dL_acts_411 (fun H64 locs hH64 hzH64 hkH64 hS => ?_)
    replace hO := hO.ad (i := 1) hα (by decide) hkH64
    have hL : LB D G (lm α) (upd R (39 + 3 * k) 1) P H64 := hL.f (g := 1) hμ hk (by decide) rfl hH64 hkH64
    refine lv_aload_n hx hb dL_acts_412 rfl (lv_at hl 4 rfl) ?_
    refine lv_iload hx hb dL_acts_413 (lv_at hl 1 rfl) ?_
    refine lv_aload_n hx hb dL_acts_415 rfl (lv_at hl 6 rfl) ?_
    refine lv_iconst (v := 4) hx hb dL_acts_416 (by decide) ?_
    refine lv_iload hx hb dL_acts_417 (lv_at hl 1 rfl) ?_
    refine lv_iadd hx hb dL_acts_419 ?_
    rw [show (4 : Int32) + nI k = nI (4 + k) from nI_add 4 k]
    refine ld_f hx hb hK hL.2.1 k 1 39 (congrArg nI (by omega)) hk (by decide) rfl dL_acts_420 ?_
    rw [show (upd R (39 + 3 * k) 1) (39 + 3 * k) = 1 from upd_eq]
    refine dp_Vi hF hK hN (n_X5_feeder l D G α R k 1 _ hα hO hg hk (by decide)) (cwV 2 hts gL_acts_X5_feeder rfl rfl rfl (by decide +kernel) ⟨Nat.le_of_ble_eq_true rfl, Nat.le_of_ble_eq_true rfl⟩) (ob_recv hK hO) hS A5_T [] rfl rfl hl.1 (Nat.le_of_ble_eq_true rfl) dL_acts_421 ⟨Nat.le_of_ble_eq_true rfl, Nat.le_of_ble_eq_true rfl⟩ (fun rH65 H65 locs hp hzH65 hkH65 hS => ?_)
    obtain ⟨rfl, h9O⟩ := hp
    replace hO := h9O
    replace hL := hL.o5 hα hkH65
    refine lv_iload hx hb dL_acts_424 (lv_at hl 0 rfl) ?_
    refine lv_icmp_ne (tgt := 433) hx hb dL_acts_426 (by decide) (fun c36 => absurd c36 (fun q => q (one_z ((gd_bz hg).2 k hk)))) (fun c36 => ?_)
    refine lv_iconst (v := 1) hx hb dL_acts_429 (by decide) ?_
    refine lv_goto (tgt := 434) hx hb dL_acts_430 (by decide) ?_
    exact W.zret (ty := .boolean) hx hb hr rfl (fun t ht hW => ⟨⟨1, H65, rfl, ⟨rfl, _, _, (gw_feed ⟨hg, hph, hen⟩ hk (Or.inr rfl)), (bud_le (bud_c hbu (upd_ne (by omega)) (upd_ne (by omega))) (by omega)), hO, hL⟩, ht⟩, hS.F ht⟩) hS.2.2 dL_acts_434
  by_cases e37 : kd = 6
  · refine lv_tableIn (off := 418) (tgt := 435) hx hb dL_acts_17 (by rw [e37]; decide) (by rw [e37]; decide) (by rw [e37]; rfl) (by decide) ?_
    refine lv_iload hx hb dL_acts_435 (lv_at hl 8 rfl) ?_
    refine lv_iconst (v := 4) hx hb dL_acts_437 (by decide) ?_
    refine dp_Si hF hK hN (c_L_low l D G x 4 _ (by decide) (by decide)) (va_cwS 2 hts gL_acts_L_low rfl rfl rfl (by decide +kernel) ⟨Nat.le_of_ble_eq_true rfl, Nat.le_of_ble_eq_true rfl⟩) hS nA_i [] rfl rfl hl.1 (Nat.le_of_ble_eq_true rfl) dL_acts_438 ⟨Nat.le_of_ble_eq_true rfl, Nat.le_of_ble_eq_true rfl⟩ (fun rH66 H66 locs hp hzH66 hkH66 hS => ?_)
    obtain ⟨rfl, rfl⟩ := hp
    obtain ⟨k, ek⟩ : ∃ q, q = low x 4 := ⟨_, rfl⟩
    rw [← ek]
    have hk : k < 4 := by rw [ek]; exact low_lt (by decide)
    refine lv_istore (lv' := [(16, .int (nI k)), (8, .int (nI (10 * j))), (7, .int (nI j)), (0, .ref (α 0)), (1, .ref (lm α 0)), (2, .ref (lm α 1)), (3, .ref (lm α 2)), (4, .ref (lm α 3)), (5, .int kd), (6, .int x)]) hx hb dL_acts_441 hl (by decide) rfl (fun ls hl => ?_)
    refine lv_aload_n hx hb dL_acts_443 rfl (lv_at hl 6 rfl) ?_
    refine lv_iload hx hb dL_acts_444 (lv_at hl 0 rfl) ?_
    refine dp_iald hx hb hK hL.2.2.1 0 rfl k rfl (by omega) (by decide) dL_acts_446 ?_
    refine lv_istore (lv' := [(17, .int (R k)), (16, .int (nI k)), (8, .int (nI (10 * j))), (7, .int (nI j)), (0, .ref (α 0)), (1, .ref (lm α 0)), (2, .ref (lm α 1)), (3, .ref (lm α 2)), (4, .ref (lm α 3)), (5, .int kd), (6, .int x)]) hx hb dL_acts_447 hl (by decide) rfl (fun ls hl => ?_)
    refine lv_aload_n hx hb dL_acts_449 rfl (lv_at hl 7 rfl) ?_
    refine lv_iload hx hb dL_acts_450 (lv_at hl 1 rfl) ?_
    refine lv_iload hx hb dL_acts_452 (lv_at hl 1 rfl) ?_
    refine lv_iconst (v := 2) hx hb dL_acts_454 (by decide) ?_
    refine lv_icmp_ge (tgt := 472) hx hb dL_acts_455 (by decide) (fun c38 => ?_) (fun c38 => ?_)
    · refine lv_iload hx hb dL_acts_472 (lv_at hl 1 rfl) ?_
      refine lv_iconst (v := 2) hx hb dL_acts_474 (by decide) ?_
      refine lv_icmp_ne (tgt := 490) hx hb dL_acts_475 (by decide) (fun c39 => ?_) (fun c39 => ?_)
      · refine lv_iload hx hb dL_acts_490 (lv_at hl 10 rfl) ?_
        refine lv_iconst (v := 2) hx hb dL_acts_492 (by decide) ?_
        refine lv_ishr hx hb dL_acts_493 ?_
        refine lv_sipush (v := 201) hx hb dL_acts_494 (by decide) ?_
        refine dp_Si hF hK hN (c_L_low l D G (x >>> (2 &&& 31)) 201 _ (by decide) (by decide)) (va_cwS 2 hts gL_acts_L_low rfl rfl rfl (by decide +kernel) ⟨Nat.le_of_ble_eq_true rfl, Nat.le_of_ble_eq_true rfl⟩) hS nA_i [.int (nI k), .ref (lm α 2)] rfl rfl hl.1 (Nat.le_of_ble_eq_true rfl) dL_acts_497 ⟨Nat.le_of_ble_eq_true rfl, Nat.le_of_ble_eq_true rfl⟩ (fun rH67 H67 locs hp hzH67 hkH67 hS => ?_)
        obtain ⟨rfl, rfl⟩ := hp
        obtain ⟨va, eva⟩ : ∃ q, q = low (x >>> (2 &&& 31)) 201 := ⟨_, rfl⟩
        rw [← eva]
        have hva : va < 201 := by rw [eva]; exact low_lt (by decide)
        refine dp_iast (A := AT α) hx hb hK hL.2.2.1 (lm_T _ ⟨2, by decide, rfl⟩) hS 0 rfl (k) rfl (by omega) (by decide) dL_acts_500 (fun H68 locs hH68 hzH68 hkH68 hS => ?_)
        replace hO := hO.ad (i := 2) hα (by decide) hkH68
        have hL : LB D G (lm α) (upd R k (nI va)) P H68 := hL.n hμ (by omega) hH68 hkH68
        refine lv_aload_n hx hb dL_acts_501 rfl (lv_at hl 4 rfl) ?_
        refine lv_iload hx hb dL_acts_502 (lv_at hl 1 rfl) ?_
        refine lv_aload_n hx hb dL_acts_504 rfl (lv_at hl 7 rfl) ?_
        refine lv_iload hx hb dL_acts_505 (lv_at hl 1 rfl) ?_
        refine dp_iald hx hb hK hL.2.2.1 0 rfl k rfl (by omega) (by decide) dL_acts_507 ?_
        rw [show (upd R k (nI va)) k = (nI va) from upd_eq]
        have hk2 := nI_ge2 hk c38
        have hk3 := nI_ne2 hk c39
        refine dpe_Vi hF hK hN hZ (n_X5_set l D G α R k (nI va) _ hα hO hg hk (set_ok (by omega))) (cwV 2 hts gL_acts_X5_set rfl rfl rfl (by decide +kernel) ⟨Nat.le_of_ble_eq_true rfl, Nat.le_of_ble_eq_true rfl⟩) (ob_recv hK hO) hS A5_T [] rfl rfl hl.1 (Nat.le_of_ble_eq_true rfl) dL_acts_508 ⟨Nat.le_of_ble_eq_true rfl, Nat.le_of_ble_eq_true rfl⟩ (fun rH69 H69 locs hp hzH69 hkH69 hS => ?_)
        obtain ⟨rfl, h9O⟩ := hp
        replace hO := h9O
        replace hL := hL.o5 hα hkH69
        refine lv_iload hx hb dL_acts_511 (lv_at hl 0 rfl) ?_
        refine lv_icmp_ne (tgt := 520) hx hb dL_acts_513 (by decide) (fun c40 => absurd c40 (fun q => q rfl)) (fun c40 => ?_)
        refine lv_iconst (v := 1) hx hb dL_acts_516 (by decide) ?_
        refine lv_goto (tgt := 521) hx hb dL_acts_517 (by decide) ?_
        exact W.zret (ty := .boolean) hx hb hr rfl (fun t ht hW => ⟨⟨1, H69, rfl, ⟨rfl, _, _, (gw_set ⟨hg, hph, hen⟩ hk (by omega) (by omega)), (bud_le (bud_c hbu (upd_ne (by omega)) (upd_ne (by omega))) (by omega)), hO, hL⟩, ht⟩, hS.F ht⟩) hS.2.2 dL_acts_521
      refine lv_iload hx hb dL_acts_478 (lv_at hl 10 rfl) ?_
      refine lv_iconst (v := 2) hx hb dL_acts_480 (by decide) ?_
      refine lv_ishr hx hb dL_acts_481 ?_
      refine lv_bipush (v := 51) hx hb dL_acts_482 (by decide) ?_
      refine dp_Si hF hK hN (c_L_low l D G (x >>> (2 &&& 31)) 51 _ (by decide) (by decide)) (va_cwS 2 hts gL_acts_L_low rfl rfl rfl (by decide +kernel) ⟨Nat.le_of_ble_eq_true rfl, Nat.le_of_ble_eq_true rfl⟩) hS nA_i [.int (nI k), .ref (lm α 2)] rfl rfl hl.1 (Nat.le_of_ble_eq_true rfl) dL_acts_484 ⟨Nat.le_of_ble_eq_true rfl, Nat.le_of_ble_eq_true rfl⟩ (fun rH70 H70 locs hp hzH70 hkH70 hS => ?_)
      obtain ⟨rfl, rfl⟩ := hp
      obtain ⟨va, eva⟩ : ∃ q, q = low (x >>> (2 &&& 31)) 51 := ⟨_, rfl⟩
      rw [← eva]
      have hva : va < 51 := by rw [eva]; exact low_lt (by decide)
      refine lv_goto (tgt := 500) hx hb dL_acts_487 (by decide) ?_
      refine dp_iast (A := AT α) hx hb hK hL.2.2.1 (lm_T _ ⟨2, by decide, rfl⟩) hS 0 rfl (k) rfl (by omega) (by decide) dL_acts_500 (fun H71 locs hH71 hzH71 hkH71 hS => ?_)
      replace hO := hO.ad (i := 2) hα (by decide) hkH71
      have hL : LB D G (lm α) (upd R k (nI va)) P H71 := hL.n hμ (by omega) hH71 hkH71
      refine lv_aload_n hx hb dL_acts_501 rfl (lv_at hl 4 rfl) ?_
      refine lv_iload hx hb dL_acts_502 (lv_at hl 1 rfl) ?_
      refine lv_aload_n hx hb dL_acts_504 rfl (lv_at hl 7 rfl) ?_
      refine lv_iload hx hb dL_acts_505 (lv_at hl 1 rfl) ?_
      refine dp_iald hx hb hK hL.2.2.1 0 rfl k rfl (by omega) (by decide) dL_acts_507 ?_
      rw [show (upd R k (nI va)) k = (nI va) from upd_eq]
      have hk2 := nI_ge2 hk c38
      have hk3 := nI_eq2 hk c39
      refine dpe_Vi hF hK hN hZ (n_X5_set l D G α R k (nI va) _ hα hO hg hk (set_ok (by omega))) (cwV 2 hts gL_acts_X5_set rfl rfl rfl (by decide +kernel) ⟨Nat.le_of_ble_eq_true rfl, Nat.le_of_ble_eq_true rfl⟩) (ob_recv hK hO) hS A5_T [] rfl rfl hl.1 (Nat.le_of_ble_eq_true rfl) dL_acts_508 ⟨Nat.le_of_ble_eq_true rfl, Nat.le_of_ble_eq_true rfl⟩ (fun rH72 H72 locs hp hzH72 hkH72 hS => ?_)
      obtain ⟨rfl, h9O⟩ := hp
      replace hO := h9O
      replace hL := hL.o5 hα hkH72
      refine lv_iload hx hb dL_acts_511 (lv_at hl 0 rfl) ?_
      refine lv_icmp_ne (tgt := 520) hx hb dL_acts_513 (by decide) (fun c41 => absurd c41 (fun q => q rfl)) (fun c41 => ?_)
      refine lv_iconst (v := 1) hx hb dL_acts_516 (by decide) ?_
      refine lv_goto (tgt := 521) hx hb dL_acts_517 (by decide) ?_
      exact W.zret (ty := .boolean) hx hb hr rfl (fun t ht hW => ⟨⟨1, H72, rfl, ⟨rfl, _, _, (gw_set ⟨hg, hph, hen⟩ hk (by omega) (by omega)), (bud_le (bud_c hbu (upd_ne (by omega)) (upd_ne (by omega))) (by omega)), hO, hL⟩, ht⟩, hS.F ht⟩) hS.2.2 dL_acts_521
    refine lv_iconst (v := 1) hx hb dL_acts_458 (by decide) ?_
    refine lv_iload hx hb dL_acts_459 (lv_at hl 10 rfl) ?_
    refine lv_iconst (v := 2) hx hb dL_acts_461 (by decide) ?_
    refine lv_ishr hx hb dL_acts_462 ?_
    refine lv_bipush (v := 9) hx hb dL_acts_463 (by decide) ?_
    refine dp_Si hF hK hN (c_L_low l D G (x >>> (2 &&& 31)) 9 _ (by decide) (by decide)) (va_cwS 2 hts gL_acts_L_low rfl rfl rfl (by decide +kernel) ⟨Nat.le_of_ble_eq_true rfl, Nat.le_of_ble_eq_true rfl⟩) hS nA_i [.int 1, .int (nI k), .ref (lm α 2)] rfl rfl hl.1 (Nat.le_of_ble_eq_true rfl) dL_acts_465 ⟨Nat.le_of_ble_eq_true rfl, Nat.le_of_ble_eq_true rfl⟩ (fun rH73 H73 locs hp hzH73 hkH73 hS => ?_)
    obtain ⟨rfl, rfl⟩ := hp
    obtain ⟨va, eva⟩ : ∃ q, q = low (x >>> (2 &&& 31)) 9 := ⟨_, rfl⟩
    rw [← eva]
    have hva : va < 9 := by rw [eva]; exact low_lt (by decide)
    refine lv_iadd hx hb dL_acts_468 ?_
    rw [show (1 : Int32) + nI va = nI (1 + va) from nI_add 1 va]
    refine lv_goto (tgt := 500) hx hb dL_acts_469 (by decide) ?_
    refine dp_iast (A := AT α) hx hb hK hL.2.2.1 (lm_T _ ⟨2, by decide, rfl⟩) hS 0 rfl (k) rfl (by omega) (by decide) dL_acts_500 (fun H74 locs hH74 hzH74 hkH74 hS => ?_)
    replace hO := hO.ad (i := 2) hα (by decide) hkH74
    have hL : LB D G (lm α) (upd R k (nI (1 + va))) P H74 := hL.n hμ (by omega) hH74 hkH74
    refine lv_aload_n hx hb dL_acts_501 rfl (lv_at hl 4 rfl) ?_
    refine lv_iload hx hb dL_acts_502 (lv_at hl 1 rfl) ?_
    refine lv_aload_n hx hb dL_acts_504 rfl (lv_at hl 7 rfl) ?_
    refine lv_iload hx hb dL_acts_505 (lv_at hl 1 rfl) ?_
    refine dp_iald hx hb hK hL.2.2.1 0 rfl k rfl (by omega) (by decide) dL_acts_507 ?_
    rw [show (upd R k (nI (1 + va))) k = (nI (1 + va)) from upd_eq]
    have hk2 := nI_lt2 hk c38
    refine dpe_Vi hF hK hN hZ (n_X5_set l D G α R k (nI (1 + va)) _ hα hO hg hk (set_ok (by omega))) (cwV 2 hts gL_acts_X5_set rfl rfl rfl (by decide +kernel) ⟨Nat.le_of_ble_eq_true rfl, Nat.le_of_ble_eq_true rfl⟩) (ob_recv hK hO) hS A5_T [] rfl rfl hl.1 (Nat.le_of_ble_eq_true rfl) dL_acts_508 ⟨Nat.le_of_ble_eq_true rfl, Nat.le_of_ble_eq_true rfl⟩ (fun rH75 H75 locs hp hzH75 hkH75 hS => ?_)
    obtain ⟨rfl, h9O⟩ := hp
    replace hO := h9O
    replace hL := hL.o5 hα hkH75
    refine lv_iload hx hb dL_acts_511 (lv_at hl 0 rfl) ?_
    refine lv_icmp_ne (tgt := 520) hx hb dL_acts_513 (by decide) (fun c42 => absurd c42 (fun q => q rfl)) (fun c42 => ?_)
    refine lv_iconst (v := 1) hx hb dL_acts_516 (by decide) ?_
    refine lv_goto (tgt := 521) hx hb dL_acts_517 (by decide) ?_
    exact W.zret (ty := .boolean) hx hb hr rfl (fun t ht hW => ⟨⟨1, H75, rfl, ⟨rfl, _, _, (gw_set ⟨hg, hph, hen⟩ hk (by omega) (by omega)), (bud_le (bud_c hbu (upd_ne (by omega)) (upd_ne (by omega))) (by omega)), hO, hL⟩, ht⟩, hS.F ht⟩) hS.2.2 dL_acts_521
  by_cases e43 : kd = 7
  · refine lv_tableIn (off := 505) (tgt := 522) hx hb dL_acts_17 (by rw [e43]; decide) (by rw [e43]; decide) (by rw [e43]; rfl) (by decide) ?_
    refine lv_aload_n hx hb dL_acts_522 rfl (lv_at hl 2 rfl) ?_
    refine lv_aload_n hx hb dL_acts_523 rfl (lv_at hl 3 rfl) ?_
    refine lv_aload_n hx hb dL_acts_524 rfl (lv_at hl 4 rfl) ?_
    refine lv_aload_n hx hb dL_acts_525 rfl (lv_at hl 5 rfl) ?_
    refine lv_iload hx hb dL_acts_526 (lv_at hl 1 rfl) ?_
    refine lv_iload hx hb dL_acts_528 (lv_at hl 8 rfl) ?_
    refine lv_iconst (v := 2) hx hb dL_acts_530 (by decide) ?_
    refine lv_ishr hx hb dL_acts_531 ?_
    refine lv_bipush (v := 6) hx hb dL_acts_532 (by decide) ?_
    refine dp_Si hF hK hN (c_L_low l D G (x >>> (2 &&& 31)) 6 _ (by decide) (by decide)) (va_cwS 2 hts gL_acts_L_low rfl rfl rfl (by decide +kernel) ⟨Nat.le_of_ble_eq_true rfl, Nat.le_of_ble_eq_true rfl⟩) hS nA_i [.int (nI j), .ref (lm α 2), .ref (lm α 1), .ref (lm α 0), .ref (α 0)] rfl rfl hl.1 (Nat.le_of_ble_eq_true rfl) dL_acts_534 ⟨Nat.le_of_ble_eq_true rfl, Nat.le_of_ble_eq_true rfl⟩ (fun rH76 H76 locs hp hzH76 hkH76 hS => ?_)
    obtain ⟨rfl, rfl⟩ := hp
    refine dp_Si hF hK hN (c_L_switches l D G α R P j (nI (low (x >>> (2 &&& 31)) 6)) c9 _ hα hO hL hg hph hj hen hbu) (va_cwS 6 hts gL_acts_L_switches rfl rfl rfl (by decide +kernel) ⟨Nat.le_of_ble_eq_true rfl, Nat.le_of_ble_eq_true rfl⟩) hS (fun q h => h) [] rfl rfl hl.1 (Nat.le_of_ble_eq_true rfl) dL_acts_537 ⟨Nat.le_of_ble_eq_true rfl, Nat.le_of_ble_eq_true rfl⟩ (fun rH77 H77 locs hp hzH77 hkH77 hS => ?_)
    obtain ⟨rfl, R1, P1, hgw1, hbu1, hO, hL⟩ := hp
    exact W.zret (ty := .boolean) hx hb hr rfl (fun t ht hW => ⟨⟨1, H77, rfl, ⟨rfl, _, _, hgw1, (bud_le hbu1 (by omega)), hO, hL⟩, ht⟩, hS.F ht⟩) hS.2.2 dL_acts_540
  by_cases e44 : kd = 8
  · refine lv_tableIn (off := 505) (tgt := 522) hx hb dL_acts_17 (by rw [e44]; decide) (by rw [e44]; decide) (by rw [e44]; rfl) (by decide) ?_
    refine lv_aload_n hx hb dL_acts_522 rfl (lv_at hl 2 rfl) ?_
    refine lv_aload_n hx hb dL_acts_523 rfl (lv_at hl 3 rfl) ?_
    refine lv_aload_n hx hb dL_acts_524 rfl (lv_at hl 4 rfl) ?_
    refine lv_aload_n hx hb dL_acts_525 rfl (lv_at hl 5 rfl) ?_
    refine lv_iload hx hb dL_acts_526 (lv_at hl 1 rfl) ?_
    refine lv_iload hx hb dL_acts_528 (lv_at hl 8 rfl) ?_
    refine lv_iconst (v := 2) hx hb dL_acts_530 (by decide) ?_
    refine lv_ishr hx hb dL_acts_531 ?_
    refine lv_bipush (v := 6) hx hb dL_acts_532 (by decide) ?_
    refine dp_Si hF hK hN (c_L_low l D G (x >>> (2 &&& 31)) 6 _ (by decide) (by decide)) (va_cwS 2 hts gL_acts_L_low rfl rfl rfl (by decide +kernel) ⟨Nat.le_of_ble_eq_true rfl, Nat.le_of_ble_eq_true rfl⟩) hS nA_i [.int (nI j), .ref (lm α 2), .ref (lm α 1), .ref (lm α 0), .ref (α 0)] rfl rfl hl.1 (Nat.le_of_ble_eq_true rfl) dL_acts_534 ⟨Nat.le_of_ble_eq_true rfl, Nat.le_of_ble_eq_true rfl⟩ (fun rH78 H78 locs hp hzH78 hkH78 hS => ?_)
    obtain ⟨rfl, rfl⟩ := hp
    refine dp_Si hF hK hN (c_L_switches l D G α R P j (nI (low (x >>> (2 &&& 31)) 6)) c9 _ hα hO hL hg hph hj hen hbu) (va_cwS 6 hts gL_acts_L_switches rfl rfl rfl (by decide +kernel) ⟨Nat.le_of_ble_eq_true rfl, Nat.le_of_ble_eq_true rfl⟩) hS (fun q h => h) [] rfl rfl hl.1 (Nat.le_of_ble_eq_true rfl) dL_acts_537 ⟨Nat.le_of_ble_eq_true rfl, Nat.le_of_ble_eq_true rfl⟩ (fun rH79 H79 locs hp hzH79 hkH79 hS => ?_)
    obtain ⟨rfl, R1, P1, hgw1, hbu1, hO, hL⟩ := hp
    exact W.zret (ty := .boolean) hx hb hr rfl (fun t ht hW => ⟨⟨1, H79, rfl, ⟨rfl, _, _, hgw1, (bud_le hbu1 (by omega)), hO, hL⟩, ht⟩, hS.F ht⟩) hS.2.2 dL_acts_540
  by_cases e45 : kd = 9
  · refine lv_tableIn (off := 505) (tgt := 522) hx hb dL_acts_17 (by rw [e45]; decide) (by rw [e45]; decide) (by rw [e45]; rfl) (by decide) ?_
    refine lv_aload_n hx hb dL_acts_522 rfl (lv_at hl 2 rfl) ?_
    refine lv_aload_n hx hb dL_acts_523 rfl (lv_at hl 3 rfl) ?_
    refine lv_aload_n hx hb dL_acts_524 rfl (lv_at hl 4 rfl) ?_
    refine lv_aload_n hx hb dL_acts_525 rfl (lv_at hl 5 rfl) ?_
    refine lv_iload hx hb dL_acts_526 (lv_at hl 1 rfl) ?_
    refine lv_iload hx hb dL_acts_528 (lv_at hl 8 rfl) ?_
    refine lv_iconst (v := 2) hx hb dL_acts_530 (by decide) ?_
    refine lv_ishr hx hb dL_acts_531 ?_
    refine lv_bipush (v := 6) hx hb dL_acts_532 (by decide) ?_
    refine dp_Si hF hK hN (c_L_low l D G (x >>> (2 &&& 31)) 6 _ (by decide) (by decide)) (va_cwS 2 hts gL_acts_L_low rfl rfl rfl (by decide +kernel) ⟨Nat.le_of_ble_eq_true rfl, Nat.le_of_ble_eq_true rfl⟩) hS nA_i [.int (nI j), .ref (lm α 2), .ref (lm α 1), .ref (lm α 0), .ref (α 0)] rfl rfl hl.1 (Nat.le_of_ble_eq_true rfl) dL_acts_534 ⟨Nat.le_of_ble_eq_true rfl, Nat.le_of_ble_eq_true rfl⟩ (fun rH80 H80 locs hp hzH80 hkH80 hS => ?_)
    obtain ⟨rfl, rfl⟩ := hp
    refine dp_Si hF hK hN (c_L_switches l D G α R P j (nI (low (x >>> (2 &&& 31)) 6)) c9 _ hα hO hL hg hph hj hen hbu) (va_cwS 6 hts gL_acts_L_switches rfl rfl rfl (by decide +kernel) ⟨Nat.le_of_ble_eq_true rfl, Nat.le_of_ble_eq_true rfl⟩) hS (fun q h => h) [] rfl rfl hl.1 (Nat.le_of_ble_eq_true rfl) dL_acts_537 ⟨Nat.le_of_ble_eq_true rfl, Nat.le_of_ble_eq_true rfl⟩ (fun rH81 H81 locs hp hzH81 hkH81 hS => ?_)
    obtain ⟨rfl, R1, P1, hgw1, hbu1, hO, hL⟩ := hp
    exact W.zret (ty := .boolean) hx hb hr rfl (fun t ht hW => ⟨⟨1, H81, rfl, ⟨rfl, _, _, hgw1, (bud_le hbu1 (by omega)), hO, hL⟩, ht⟩, hS.F ht⟩) hS.2.2 dL_acts_540
  by_cases e46 : kd = 10
  · refine lv_tableIn (off := 505) (tgt := 522) hx hb dL_acts_17 (by rw [e46]; decide) (by rw [e46]; decide) (by rw [e46]; rfl) (by decide) ?_
    refine lv_aload_n hx hb dL_acts_522 rfl (lv_at hl 2 rfl) ?_
    refine lv_aload_n hx hb dL_acts_523 rfl (lv_at hl 3 rfl) ?_
    refine lv_aload_n hx hb dL_acts_524 rfl (lv_at hl 4 rfl) ?_
    refine lv_aload_n hx hb dL_acts_525 rfl (lv_at hl 5 rfl) ?_
    refine lv_iload hx hb dL_acts_526 (lv_at hl 1 rfl) ?_
    refine lv_iload hx hb dL_acts_528 (lv_at hl 8 rfl) ?_
    refine lv_iconst (v := 2) hx hb dL_acts_530 (by decide) ?_
    refine lv_ishr hx hb dL_acts_531 ?_
    refine lv_bipush (v := 6) hx hb dL_acts_532 (by decide) ?_
    refine dp_Si hF hK hN (c_L_low l D G (x >>> (2 &&& 31)) 6 _ (by decide) (by decide)) (va_cwS 2 hts gL_acts_L_low rfl rfl rfl (by decide +kernel) ⟨Nat.le_of_ble_eq_true rfl, Nat.le_of_ble_eq_true rfl⟩) hS nA_i [.int (nI j), .ref (lm α 2), .ref (lm α 1), .ref (lm α 0), .ref (α 0)] rfl rfl hl.1 (Nat.le_of_ble_eq_true rfl) dL_acts_534 ⟨Nat.le_of_ble_eq_true rfl, Nat.le_of_ble_eq_true rfl⟩ (fun rH82 H82 locs hp hzH82 hkH82 hS => ?_)
    obtain ⟨rfl, rfl⟩ := hp
    refine dp_Si hF hK hN (c_L_switches l D G α R P j (nI (low (x >>> (2 &&& 31)) 6)) c9 _ hα hO hL hg hph hj hen hbu) (va_cwS 6 hts gL_acts_L_switches rfl rfl rfl (by decide +kernel) ⟨Nat.le_of_ble_eq_true rfl, Nat.le_of_ble_eq_true rfl⟩) hS (fun q h => h) [] rfl rfl hl.1 (Nat.le_of_ble_eq_true rfl) dL_acts_537 ⟨Nat.le_of_ble_eq_true rfl, Nat.le_of_ble_eq_true rfl⟩ (fun rH83 H83 locs hp hzH83 hkH83 hS => ?_)
    obtain ⟨rfl, R1, P1, hgw1, hbu1, hO, hL⟩ := hp
    exact W.zret (ty := .boolean) hx hb hr rfl (fun t ht hW => ⟨⟨1, H83, rfl, ⟨rfl, _, _, hgw1, (bud_le hbu1 (by omega)), hO, hL⟩, ht⟩, hS.F ht⟩) hS.2.2 dL_acts_540
  by_cases e47 : kd = 11
  · refine lv_tableIn (off := 505) (tgt := 522) hx hb dL_acts_17 (by rw [e47]; decide) (by rw [e47]; decide) (by rw [e47]; rfl) (by decide) ?_
    refine lv_aload_n hx hb dL_acts_522 rfl (lv_at hl 2 rfl) ?_
    refine lv_aload_n hx hb dL_acts_523 rfl (lv_at hl 3 rfl) ?_
    refine lv_aload_n hx hb dL_acts_524 rfl (lv_at hl 4 rfl) ?_
    refine lv_aload_n hx hb dL_acts_525 rfl (lv_at hl 5 rfl) ?_
    refine lv_iload hx hb dL_acts_526 (lv_at hl 1 rfl) ?_
    refine lv_iload hx hb dL_acts_528 (lv_at hl 8 rfl) ?_
    refine lv_iconst (v := 2) hx hb dL_acts_530 (by decide) ?_
    refine lv_ishr hx hb dL_acts_531 ?_
    refine lv_bipush (v := 6) hx hb dL_acts_532 (by decide) ?_
    refine dp_Si hF hK hN (c_L_low l D G (x >>> (2 &&& 31)) 6 _ (by decide) (by decide)) (va_cwS 2 hts gL_acts_L_low rfl rfl rfl (by decide +kernel) ⟨Nat.le_of_ble_eq_true rfl, Nat.le_of_ble_eq_true rfl⟩) hS nA_i [.int (nI j), .ref (lm α 2), .ref (lm α 1), .ref (lm α 0), .ref (α 0)] rfl rfl hl.1 (Nat.le_of_ble_eq_true rfl) dL_acts_534 ⟨Nat.le_of_ble_eq_true rfl, Nat.le_of_ble_eq_true rfl⟩ (fun rH84 H84 locs hp hzH84 hkH84 hS => ?_)
    obtain ⟨rfl, rfl⟩ := hp
    refine dp_Si hF hK hN (c_L_switches l D G α R P j (nI (low (x >>> (2 &&& 31)) 6)) c9 _ hα hO hL hg hph hj hen hbu) (va_cwS 6 hts gL_acts_L_switches rfl rfl rfl (by decide +kernel) ⟨Nat.le_of_ble_eq_true rfl, Nat.le_of_ble_eq_true rfl⟩) hS (fun q h => h) [] rfl rfl hl.1 (Nat.le_of_ble_eq_true rfl) dL_acts_537 ⟨Nat.le_of_ble_eq_true rfl, Nat.le_of_ble_eq_true rfl⟩ (fun rH85 H85 locs hp hzH85 hkH85 hS => ?_)
    obtain ⟨rfl, R1, P1, hgw1, hbu1, hO, hL⟩ := hp
    exact W.zret (ty := .boolean) hx hb hr rfl (fun t ht hW => ⟨⟨1, H85, rfl, ⟨rfl, _, _, hgw1, (bud_le hbu1 (by omega)), hO, hL⟩, ht⟩, hS.F ht⟩) hS.2.2 dL_acts_540
  have e1I := lv_neT (a := 0) e1 (by decide)
  have e5I := lv_neT (a := 1) e5 (by decide)
  have e15I := lv_neT (a := 2) e15 (by decide)
  have e25I := lv_neT (a := 3) e25 (by decide)
  have e29I := lv_neT (a := 4) e29 (by decide)
  have e33I := lv_neT (a := 5) e33 (by decide)
  have e37I := lv_neT (a := 6) e37 (by decide)
  have e43I := lv_neT (a := 7) e43 (by decide)
  have e44I := lv_neT (a := 8) e44 (by decide)
  have e45I := lv_neT (a := 9) e45 (by decide)
  have e46I := lv_neT (a := 10) e46 (by decide)
  have e47I := lv_neT (a := 11) e47 (by decide)
  refine lv_tableOut (tgt := 541) hx hb dL_acts_17 (by omega) (by decide) ?_
  refine lv_iconst (v := 1) hx hb dL_acts_541 (by decide) ?_
  refine lv_iload hx hb dL_acts_542 (lv_at hl 8 rfl) ?_
  refine lv_iload hx hb dL_acts_544 (lv_at hl 8 rfl) ?_
  refine lv_bipush (v := 8) hx hb dL_acts_546 (by decide) ?_
  refine lv_ishr hx hb dL_acts_548 ?_
  refine lv_iconst (v := 3) hx hb dL_acts_549 (by decide) ?_
  refine dp_Si hF hK hN (c_L_low l D G (x >>> (8 &&& 31)) 3 _ (by decide) (by decide)) (va_cwS 2 hts gL_acts_L_low rfl rfl rfl (by decide +kernel) ⟨Nat.le_of_ble_eq_true rfl, Nat.le_of_ble_eq_true rfl⟩) hS nA_i [.int x, .int 1] rfl rfl hl.1 (Nat.le_of_ble_eq_true rfl) dL_acts_550 ⟨Nat.le_of_ble_eq_true rfl, Nat.le_of_ble_eq_true rfl⟩ (fun rH86 H86 locs hp hzH86 hkH86 hS => ?_)
  obtain ⟨rfl, rfl⟩ := hp
  refine lv_if_ne (tgt := 561) hx hb dL_acts_553 (by decide) (fun c48 => ?_) (fun c48 => ?_)
  · refine lv_bipush (v := 6) hx hb dL_acts_561 (by decide) ?_
    refine dp_Si hF hK hN (c_L_low l D G x 6 _ (by decide) (by decide)) (va_cwS 2 hts gL_acts_L_low rfl rfl rfl (by decide +kernel) ⟨Nat.le_of_ble_eq_true rfl, Nat.le_of_ble_eq_true rfl⟩) hS nA_i [.int 1] rfl rfl hl.1 (Nat.le_of_ble_eq_true rfl) dL_acts_563 ⟨Nat.le_of_ble_eq_true rfl, Nat.le_of_ble_eq_true rfl⟩ (fun rH87 H87 locs hp hzH87 hkH87 hS => ?_)
    obtain ⟨rfl, rfl⟩ := hp
    obtain ⟨b, eb⟩ : ∃ q, q = low x 6 := ⟨_, rfl⟩
    rw [← eb]
    have hb60 : b < 60 := by have := low_lt (x := x) (n := 6) (by decide); rw [eb]; omega
    refine lv_iadd hx hb dL_acts_566 ?_
    rw [show (1 : Int32) + nI b = nI (1 + b) from nI_add 1 b]
    refine lv_istore (lv' := [(18, .int (nI (1 + b))), (8, .int (nI (10 * j))), (7, .int (nI j)), (0, .ref (α 0)), (1, .ref (lm α 0)), (2, .ref (lm α 1)), (3, .ref (lm α 2)), (4, .ref (lm α 3)), (5, .int kd), (6, .int x)]) hx hb dL_acts_567 hl (by decide) rfl (fun ls hl => ?_)
    refine lv_iconst (v := 0) hx hb dL_acts_569 (by decide) ?_
    refine lv_istore (lv' := [(19, .int 0), (18, .int (nI (1 + b))), (8, .int (nI (10 * j))), (7, .int (nI j)), (0, .ref (α 0)), (1, .ref (lm α 0)), (2, .ref (lm α 1)), (3, .ref (lm α 2)), (4, .ref (lm α 3)), (5, .int kd), (6, .int x)]) hx hb dL_acts_570 hl (by decide) rfl (fun ls hl => ?_)
    refine lv_iconst (v := 0) hx hb dL_acts_572 (by decide) ?_
    refine lv_istore (lv' := [(20, .int 0), (19, .int 0), (18, .int (nI (1 + b))), (8, .int (nI (10 * j))), (7, .int (nI j)), (0, .ref (α 0)), (1, .ref (lm α 0)), (2, .ref (lm α 1)), (3, .ref (lm α 2)), (4, .ref (lm α 3)), (5, .int kd), (6, .int x)]) hx hb dL_acts_573 hl (by decide) rfl (fun ls hl => ?_)
    have loop575 : ∀ (m9 : Nat) (t : Nat) (tr9 : Int32) (P9 : Nat → Int32) (Hh : Heap) (_ : t + m9 = 1 + b) (_ : tr9 = ptn R t) (_ : OB D G α R Hh) (_ : LB D G (lm α) (pt R t) P9 Hh) (locs : List Loc) (_ : va_S (AT α) s.heap Hh locs) (ls : Array Slot) (_ : lv_has ls 21 [(0, .ref (α 0)), (1, .ref (lm α 0)), (2, .ref (lm α 1)), (3, .ref (lm α 2)), (4, .ref (lm α 3)), (18, .int (nI (1 + b))), (19, .int tr9), (20, .int (nI t))]), W p l e (headSpec wsL_acts ({ frames := 7, cells := 0, slots := 0, locals := 162 } : Room)).room s m ([.ref (α 0), .ref (lm α 0), .ref (lm α 1), .ref (lm α 2), .ref (lm α 3), .int kd, .int x] : List Value).toArray below meth c Hh locs 0 0 (MQ below (QI (AT α) (fun r h => 1 = r ∧ ∃ R1 P1, gw R1 ∧ bud R1 (c9 + 60) ∧ OB D G α R1 h ∧ LB D G (lm α) R1 P1 h)) ([.ref (α 0), .ref (lm α 0), .ref (lm α 1), .ref (lm α 2), .ref (lm α 3), .int kd, .int x] : List Value).toArray s 0 0 (AT α)) (F0 m 575 ls []) := by
      intro m9
      induction m9 with
      | zero =>
        intro t tr9 P9 Hh hin htr hO hL locs hS ls hl
        refine lv_iload hx hb dL_acts_575 (lv_at hl 7 rfl) ?_
        refine lv_iload hx hb dL_acts_577 (lv_at hl 5 rfl) ?_
        refine lv_icmp_ge (tgt := 601) hx hb dL_acts_579 (by decide) (fun c49 => ?_) (fun c49 => absurd (nI_le (a := 1 + b) (b := t) (by omega) (by omega)) c49)
        have ht9 : t = 1 + b := by omega
        rw [ht9] at htr hL
        refine lv_aload_n hx hb dL_acts_601 rfl (lv_at hl 0 rfl) ?_
        refine lv_iload hx hb dL_acts_602 (lv_at hl 5 rfl) ?_
        refine dp_Vi hF hK hN (n_X5_pass l D G α R (1 + b) _ hα hO hg (by omega)) (cwV 1 hts gL_acts_X5_pass rfl rfl rfl (by decide +kernel) ⟨Nat.le_of_ble_eq_true rfl, Nat.le_of_ble_eq_true rfl⟩) (ob_recv hK hO) hS A5_T [] rfl rfl hl.1 (Nat.le_of_ble_eq_true rfl) dL_acts_604 ⟨Nat.le_of_ble_eq_true rfl, Nat.le_of_ble_eq_true rfl⟩ (fun rH88 H88 locs hp hzH88 hkH88 hS => ?_)
        obtain ⟨rfl, h9O⟩ := hp
        replace hO := h9O
        replace hL := hL.o5 hα hkH88
        refine lv_iload hx hb dL_acts_607 (lv_at hl 6 rfl) ?_
        refine lv_icmp_ne (tgt := 616) hx hb dL_acts_609 (by decide) (fun c50 => absurd c50 (fun q => q htr.symm)) (fun c50 => ?_)
        refine lv_iconst (v := 1) hx hb dL_acts_612 (by decide) ?_
        refine lv_goto (tgt := 617) hx hb dL_acts_613 (by decide) ?_
        exact W.zret (ty := .boolean) hx hb hr rfl (fun t ht hW => ⟨⟨1, H88, rfl, ⟨rfl, _, _, (gw_pt ⟨hg, hph, hen⟩ (1 + b)), (bud_le (bud_pt hg hbu (1 + b)) (by omega)), hO, hL⟩, ht⟩, hS.F ht⟩) hS.2.2 dL_acts_617
      | succ m9 ih575 =>
        intro t tr9 P9 Hh hin htr hO hL locs hS ls hl
        refine lv_iload hx hb dL_acts_575 (lv_at hl 7 rfl) ?_
        refine lv_iload hx hb dL_acts_577 (lv_at hl 5 rfl) ?_
        refine lv_icmp_ge (tgt := 601) hx hb dL_acts_579 (by decide) (fun c51 => absurd c51 (nI_ge (a := t) (b := 1 + b) (by omega) (by omega))) (fun c51 => ?_)
        refine lv_iload hx hb dL_acts_582 (lv_at hl 6 rfl) ?_
        refine lv_aload_n hx hb dL_acts_584 rfl (lv_at hl 1 rfl) ?_
        refine lv_aload_n hx hb dL_acts_585 rfl (lv_at hl 2 rfl) ?_
        refine lv_aload_n hx hb dL_acts_586 rfl (lv_at hl 3 rfl) ?_
        refine lv_aload hx hb dL_acts_587 (lv_at hl 4 rfl) ?_
        refine dp_Si hF hK hN (c_L_ticks l D G (lm α) (pt R t) P9  _ hμ hL (gd_pt hg t) (ph_pt hg hph t)) (va_cwS 4 hts gL_acts_L_ticks rfl rfl rfl (by decide +kernel) ⟨Nat.le_of_ble_eq_true rfl, Nat.le_of_ble_eq_true rfl⟩) hS lm_T [.int tr9] rfl rfl hl.1 (Nat.le_of_ble_eq_true rfl) dL_acts_589 ⟨Nat.le_of_ble_eq_true rfl, Nat.le_of_ble_eq_true rfl⟩ (fun rH89 H89 locs hp hzH89 hkH89 hS => ?_)
        replace hO := hO.km hα hkH89
        obtain ⟨rfl, h9L⟩ := hp
        replace hL := h9L
        refine lv_iadd hx hb dL_acts_592 ?_
        refine lv_istore (lv' := [(19, .int (tr9 + (tkn (pt R t)))), (0, .ref (α 0)), (1, .ref (lm α 0)), (2, .ref (lm α 1)), (3, .ref (lm α 2)), (4, .ref (lm α 3)), (18, .int (nI (1 + b))), (20, .int (nI t))]) hx hb dL_acts_593 hl (by decide) rfl (fun ls hl => ?_)
        refine lv_iinc (v := nI (t + 1)) (lv' := [(20, .int (nI (t + 1))), (19, .int (tr9 + (tkn (pt R t)))), (0, .ref (α 0)), (1, .ref (lm α 0)), (2, .ref (lm α 1)), (3, .ref (lm α 2)), (4, .ref (lm α 3)), (18, .int (nI (1 + b)))]) hx hb dL_acts_595 hl (k := 7) rfl (nI_1 t) (by decide) rfl (fun ls hl => ?_)
        refine lv_goto (tgt := 575) hx hb dL_acts_598 (by decide) ?_
        exact ih575 (t + 1) (tr9 + (tkn (pt R t))) (pwv (pt R t)) H89 (by omega) (by rw [htr]; rfl) hO hL _ hS _ (lv_sub hl [2, 3, 4, 5, 6, 7, 1, 0] rfl)
    exact loop575 (1 + b) 0 0 P s.heap (Nat.zero_add _) rfl hO hL _ hS _ (lv_sub hl [5, 6, 7, 8, 9, 2, 1, 0] rfl)
  refine lv_bipush (v := 60) hx hb dL_acts_556 (by decide) ?_
  refine lv_goto (tgt := 563) hx hb dL_acts_558 (by decide) ?_
  refine dp_Si hF hK hN (c_L_low l D G x 60 _ (by decide) (by decide)) (va_cwS 2 hts gL_acts_L_low rfl rfl rfl (by decide +kernel) ⟨Nat.le_of_ble_eq_true rfl, Nat.le_of_ble_eq_true rfl⟩) hS nA_i [.int 1] rfl rfl hl.1 (Nat.le_of_ble_eq_true rfl) dL_acts_563 ⟨Nat.le_of_ble_eq_true rfl, Nat.le_of_ble_eq_true rfl⟩ (fun rH90 H90 locs hp hzH90 hkH90 hS => ?_)
  obtain ⟨rfl, rfl⟩ := hp
  obtain ⟨b, eb⟩ : ∃ q, q = low x 60 := ⟨_, rfl⟩
  rw [← eb]
  have hb60 : b < 60 := by have := low_lt (x := x) (n := 60) (by decide); rw [eb]; omega
  refine lv_iadd hx hb dL_acts_566 ?_
  rw [show (1 : Int32) + nI b = nI (1 + b) from nI_add 1 b]
  refine lv_istore (lv' := [(18, .int (nI (1 + b))), (8, .int (nI (10 * j))), (7, .int (nI j)), (0, .ref (α 0)), (1, .ref (lm α 0)), (2, .ref (lm α 1)), (3, .ref (lm α 2)), (4, .ref (lm α 3)), (5, .int kd), (6, .int x)]) hx hb dL_acts_567 hl (by decide) rfl (fun ls hl => ?_)
  refine lv_iconst (v := 0) hx hb dL_acts_569 (by decide) ?_
  refine lv_istore (lv' := [(19, .int 0), (18, .int (nI (1 + b))), (8, .int (nI (10 * j))), (7, .int (nI j)), (0, .ref (α 0)), (1, .ref (lm α 0)), (2, .ref (lm α 1)), (3, .ref (lm α 2)), (4, .ref (lm α 3)), (5, .int kd), (6, .int x)]) hx hb dL_acts_570 hl (by decide) rfl (fun ls hl => ?_)
  refine lv_iconst (v := 0) hx hb dL_acts_572 (by decide) ?_
  refine lv_istore (lv' := [(20, .int 0), (19, .int 0), (18, .int (nI (1 + b))), (8, .int (nI (10 * j))), (7, .int (nI j)), (0, .ref (α 0)), (1, .ref (lm α 0)), (2, .ref (lm α 1)), (3, .ref (lm α 2)), (4, .ref (lm α 3)), (5, .int kd), (6, .int x)]) hx hb dL_acts_573 hl (by decide) rfl (fun ls hl => ?_)
  have loop575 : ∀ (m9 : Nat) (t : Nat) (tr9 : Int32) (P9 : Nat → Int32) (Hh : Heap) (_ : t + m9 = 1 + b) (_ : tr9 = ptn R t) (_ : OB D G α R Hh) (_ : LB D G (lm α) (pt R t) P9 Hh) (locs : List Loc) (_ : va_S (AT α) s.heap Hh locs) (ls : Array Slot) (_ : lv_has ls 21 [(0, .ref (α 0)), (1, .ref (lm α 0)), (2, .ref (lm α 1)), (3, .ref (lm α 2)), (4, .ref (lm α 3)), (18, .int (nI (1 + b))), (19, .int tr9), (20, .int (nI t))]), W p l e (headSpec wsL_acts ({ frames := 7, cells := 0, slots := 0, locals := 162 } : Room)).room s m ([.ref (α 0), .ref (lm α 0), .ref (lm α 1), .ref (lm α 2), .ref (lm α 3), .int kd, .int x] : List Value).toArray below meth c Hh locs 0 0 (MQ below (QI (AT α) (fun r h => 1 = r ∧ ∃ R1 P1, gw R1 ∧ bud R1 (c9 + 60) ∧ OB D G α R1 h ∧ LB D G (lm α) R1 P1 h)) ([.ref (α 0), .ref (lm α 0), .ref (lm α 1), .ref (lm α 2), .ref (lm α 3), .int kd, .int x] : List Value).toArray s 0 0 (AT α)) (F0 m 575 ls []) := by
    intro m9
    induction m9 with
    | zero =>
      intro t tr9 P9 Hh hin htr hO hL locs hS ls hl
      refine lv_iload hx hb dL_acts_575 (lv_at hl 7 rfl) ?_
      refine lv_iload hx hb dL_acts_577 (lv_at hl 5 rfl) ?_
      refine lv_icmp_ge (tgt := 601) hx hb dL_acts_579 (by decide) (fun c52 => ?_) (fun c52 => absurd (nI_le (a := 1 + b) (b := t) (by omega) (by omega)) c52)
      have ht9 : t = 1 + b := by omega
      rw [ht9] at htr hL
      refine lv_aload_n hx hb dL_acts_601 rfl (lv_at hl 0 rfl) ?_
      refine lv_iload hx hb dL_acts_602 (lv_at hl 5 rfl) ?_
      refine dp_Vi hF hK hN (n_X5_pass l D G α R (1 + b) _ hα hO hg (by omega)) (cwV 1 hts gL_acts_X5_pass rfl rfl rfl (by decide +kernel) ⟨Nat.le_of_ble_eq_true rfl, Nat.le_of_ble_eq_true rfl⟩) (ob_recv hK hO) hS A5_T [] rfl rfl hl.1 (Nat.le_of_ble_eq_true rfl) dL_acts_604 ⟨Nat.le_of_ble_eq_true rfl, Nat.le_of_ble_eq_true rfl⟩ (fun rH91 H91 locs hp hzH91 hkH91 hS => ?_)
      obtain ⟨rfl, h9O⟩ := hp
      replace hO := h9O
      replace hL := hL.o5 hα hkH91
      refine lv_iload hx hb dL_acts_607 (lv_at hl 6 rfl) ?_
      refine lv_icmp_ne (tgt := 616) hx hb dL_acts_609 (by decide) (fun c53 => absurd c53 (fun q => q htr.symm)) (fun c53 => ?_)
      refine lv_iconst (v := 1) hx hb dL_acts_612 (by decide) ?_
      refine lv_goto (tgt := 617) hx hb dL_acts_613 (by decide) ?_
      exact W.zret (ty := .boolean) hx hb hr rfl (fun t ht hW => ⟨⟨1, H91, rfl, ⟨rfl, _, _, (gw_pt ⟨hg, hph, hen⟩ (1 + b)), (bud_le (bud_pt hg hbu (1 + b)) (by omega)), hO, hL⟩, ht⟩, hS.F ht⟩) hS.2.2 dL_acts_617
    | succ m9 ih575 =>
      intro t tr9 P9 Hh hin htr hO hL locs hS ls hl
      refine lv_iload hx hb dL_acts_575 (lv_at hl 7 rfl) ?_
      refine lv_iload hx hb dL_acts_577 (lv_at hl 5 rfl) ?_
      refine lv_icmp_ge (tgt := 601) hx hb dL_acts_579 (by decide) (fun c54 => absurd c54 (nI_ge (a := t) (b := 1 + b) (by omega) (by omega))) (fun c54 => ?_)
      refine lv_iload hx hb dL_acts_582 (lv_at hl 6 rfl) ?_
      refine lv_aload_n hx hb dL_acts_584 rfl (lv_at hl 1 rfl) ?_
      refine lv_aload_n hx hb dL_acts_585 rfl (lv_at hl 2 rfl) ?_
      refine lv_aload_n hx hb dL_acts_586 rfl (lv_at hl 3 rfl) ?_
      refine lv_aload hx hb dL_acts_587 (lv_at hl 4 rfl) ?_
      refine dp_Si hF hK hN (c_L_ticks l D G (lm α) (pt R t) P9  _ hμ hL (gd_pt hg t) (ph_pt hg hph t)) (va_cwS 4 hts gL_acts_L_ticks rfl rfl rfl (by decide +kernel) ⟨Nat.le_of_ble_eq_true rfl, Nat.le_of_ble_eq_true rfl⟩) hS lm_T [.int tr9] rfl rfl hl.1 (Nat.le_of_ble_eq_true rfl) dL_acts_589 ⟨Nat.le_of_ble_eq_true rfl, Nat.le_of_ble_eq_true rfl⟩ (fun rH92 H92 locs hp hzH92 hkH92 hS => ?_)
      replace hO := hO.km hα hkH92
      obtain ⟨rfl, h9L⟩ := hp
      replace hL := h9L
      refine lv_iadd hx hb dL_acts_592 ?_
      refine lv_istore (lv' := [(19, .int (tr9 + (tkn (pt R t)))), (0, .ref (α 0)), (1, .ref (lm α 0)), (2, .ref (lm α 1)), (3, .ref (lm α 2)), (4, .ref (lm α 3)), (18, .int (nI (1 + b))), (20, .int (nI t))]) hx hb dL_acts_593 hl (by decide) rfl (fun ls hl => ?_)
      refine lv_iinc (v := nI (t + 1)) (lv' := [(20, .int (nI (t + 1))), (19, .int (tr9 + (tkn (pt R t)))), (0, .ref (α 0)), (1, .ref (lm α 0)), (2, .ref (lm α 1)), (3, .ref (lm α 2)), (4, .ref (lm α 3)), (18, .int (nI (1 + b)))]) hx hb dL_acts_595 hl (k := 7) rfl (nI_1 t) (by decide) rfl (fun ls hl => ?_)
      refine lv_goto (tgt := 575) hx hb dL_acts_598 (by decide) ?_
      exact ih575 (t + 1) (tr9 + (tkn (pt R t))) (pwv (pt R t)) H92 (by omega) (by rw [htr]; rfl) hO hL _ hS _ (lv_sub hl [2, 3, 4, 5, 6, 7, 1, 0] rfl)
  exact loop575 (1 + b) 0 0 P s.heap (Nat.zero_add _) rfl hO hL _ hS _ (lv_sub hl [5, 6, 7, 8, 9, 2, 1, 0] rfl)
